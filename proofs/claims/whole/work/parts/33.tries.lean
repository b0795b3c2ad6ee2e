-- ===== contracts: gifts, what is enough, marks =====
def setV (W : Wv) (p c : Nat) (x : Int32) : Wv := mkW W.m W.mm (up2 W.C p c x) W.gr W.rn W.sb W.dry
def rnV (W : Wv) (q : Nat) (x : Int32) : Wv := mkW W.m W.mm W.C W.gr (up1 W.rn q x) W.sb W.dry
theorem setV_id {W : Wv} {p c : Nat} : setV W p c (W.C p c) = W := by
  obtain ⟨m, mm, C, r⟩ := W
  unfold setV mkW
  show (m, mm, up2 C p c (C p c), r) = (m, mm, C, r)
  congr 3
  funext a b
  unfold up2
  by_cases h : a = p
  · rw [if_pos h]
    by_cases k : b = c
    · rw [if_pos k, h, k]
    · rw [if_neg k]
  · rw [if_neg h]
theorem setV_ok {W : Wv} (h : okW W) {p c : Nat} {x : Int32} (h0 : c = 0 → ∃ k, k < 7 ∧ x = nI k) (h3 : c = 3 → ∃ q, q < 4 ∧ x = nI q) : okW (setV W p c x) := by
  obtain ⟨b1, b2, b3, b4, b5⟩ := h
  refine ⟨b1, b2, fun a ha => ?_, fun a ha => ?_, b5⟩
  · show ∃ k, k < 7 ∧ up2 W.C p c x a 0 = nI k
    by_cases e : c = 0
    · subst e
      by_cases f : a = p
      · subst f; rw [up2_s]; exact h0 rfl
      · rw [up2_k f]; exact b3 a ha
    · rw [up2_i (fun z => e z.symm)]; exact b3 a ha
  · show ∃ k, k < 4 ∧ up2 W.C p c x a 3 = nI k
    by_cases e : c = 3
    · subst e
      by_cases f : a = p
      · subst f; rw [up2_s]; exact h3 rfl
      · rw [up2_k f]; exact b4 a ha
    · rw [up2_i (fun z => e z.symm)]; exact b4 a ha
theorem rnV_ok {W : Wv} (h : okW W) {q : Nat} {x : Int32} : okW (rnV W q x) := h
theorem vC_set {Z : Zt} {G : Gt} {w : Nat} {W : Wv} (h : vC Z G w W) (ho : okW W) (hw : w < 90) {p c : Nat} {x : Int32} (hp : p < W.m) : vC Z (up2 G (w + 2 + p) c x) w (setV W p c x) := by
  have hm6 := ho.1
  obtain ⟨a1, a2, a3, a4, a5, a6, a7, a8⟩ := id h
  refine vC_step h (fun a ha => ?_) ?_ ?_ (fun a ha i hi => ?_) (fun q hq => ?_) (fun q hq => ?_) rfl rfl
  · rw [up2_row (by omega)]
  · rw [up2_k (by omega)]; exact a1
  · rw [up2_k (by omega)]; exact a2
  · show _ = up2 W.C p c x a i
    by_cases e : a = p
    · subst e
      by_cases f : i = c
      · subst f; rw [up2_s, up2_s]
      · rw [up2_i f, up2_i f]; exact a3 a ha i hi
    · rw [up2_k (by omega), up2_k e]; exact a3 a ha i hi
  · rw [up2_k (by omega)]; exact a4 q hq
  · rw [up2_k (by omega)]; exact a5 q hq
theorem vC_rn {Z : Zt} {G : Gt} {w : Nat} {W : Wv} (h : vC Z G w W) (ho : okW W) (hw : w < 90) {q : Nat} {x : Int32} : vC Z (up2 G (w + 9) q x) w (rnV W q x) := by
  have hm6 := ho.1
  obtain ⟨a1, a2, a3, a4, a5, a6, a7, a8⟩ := id h
  refine vC_step h (fun a ha => ?_) ?_ ?_ (fun a ha i hi => ?_) (fun b hb => ?_) (fun b hb => ?_) rfl rfl
  · rw [up2_row (by omega)]
  · rw [up2_k (by omega)]; exact a1
  · rw [up2_k (by omega)]; exact a2
  · have ha : a < W.m := ha
    rw [up2_k (by omega)]; exact a3 a ha i hi
  · rw [up2_k (by omega)]; exact a4 b hb
  · show _ = up1 W.rn q x b
    by_cases e : b = q
    · subst e; rw [up2_s, up1_s]
    · rw [up2_i e, up1_n e]; exact a5 b hb
theorem trP_set {Z Z1 : Zt} {G G1 : Gt} (h : trP Z G Z1 G1) {k c : Nat} {x : Int32} (hk : 58 ≤ k ∧ k < 75) : trP Z G Z1 (up2 G1 k c x) := trP_G h (fun a h1 => up2_row (by omega))
/-- what is told by hand: marks (rocket, minutes, light), plan (act, rocket), book (rocket, damp) -/
def Hv : Type := (Nat × (Nat → Nat) × (Nat → Nat) × (Nat → Int32)) × (Nat × (Nat → Nat) × (Nat → Nat)) × (Nat × (Nat → Nat) × (Nat → Int32))
def Hv.nk (H : Hv) : Nat := H.1.1
def Hv.k0 (H : Hv) : Nat → Nat := H.1.2.1
def Hv.k1 (H : Hv) : Nat → Nat := H.1.2.2.1
def Hv.k2 (H : Hv) : Nat → Int32 := H.1.2.2.2
def Hv.np (H : Hv) : Nat := H.2.1.1
def Hv.p0 (H : Hv) : Nat → Nat := H.2.1.2.1
def Hv.p1 (H : Hv) : Nat → Nat := H.2.1.2.2
def Hv.nb (H : Hv) : Nat := H.2.2.1
def Hv.b0 (H : Hv) : Nat → Nat := H.2.2.2.1
def Hv.b1 (H : Hv) : Nat → Int32 := H.2.2.2.2
def okH (m : Nat) (H : Hv) : Prop := H.nk ≤ 5 ∧ (∀ k, k < H.nk → H.k0 k < m ∧ H.k1 k ≤ 12) ∧ H.np ≤ 10 ∧ (∀ k, k < H.np → H.p0 k < 4 ∧ (H.p0 k ≠ 0 → H.p1 k < m)) ∧ H.nb ≤ 8 ∧ (∀ k, k < H.nb → H.b0 k < m)
def hC (G : Gt) (w : Nat) (H : Hv) : Prop := (G w 12 = nI H.nk ∧ ∀ k, k < H.nk → G (w + 10) k = nI (H.k0 k) ∧ G (w + 11) k = nI (H.k1 k) ∧ G (w + 12) k = H.k2 k) ∧ (G w 13 = nI H.np ∧ ∀ k, k < H.np → G (w + 13) k = nI (H.p0 k) ∧ G (w + 14) k = nI (H.p1 k)) ∧ (G w 14 = nI H.nb ∧ ∀ k, k < H.nb → G (w + 15) k = nI (H.b0 k) ∧ G (w + 16) k = H.b1 k)
theorem trP_hC {Z Z' : Zt} {G G' : Gt} (h : trP Z G Z' G') {w : Nat} {H : Hv} (hh : hC G w H) (hw : w = 24 ∨ w = 41) : hC G' w H := by
  have e : ∀ a, w ≤ a → a < w + 17 → G' a = G a := fun a h1 h2 => h.2.2.2 a (by omega)
  unfold hC
  rw [e w (by omega) (by omega), e (w + 10) (by omega) (by omega), e (w + 11) (by omega) (by omega), e (w + 12) (by omega) (by omega), e (w + 13) (by omega) (by omega), e (w + 14) (by omega) (by omega), e (w + 15) (by omega) (by omega), e (w + 16) (by omega) (by omega)]
  exact hh
/-- the first k, from k on, at which f is so -/
def fst0 (f : Nat → Bool) : Nat → Nat → Int32
  | 0, _ => -5
  | r + 1, k => if f k = true then nI k else fst0 f r (k + 1)
/-- how few are enough: the first s sets -/
def enV (W : Wv) (u : Nat) : Nat → Int32 × Int32
  | 0 => (-5, 7)
  | s + 1 => if nI s &&& (inB (fun p => W.C p 5) 0 W.m ^^^ (-1)) = 0 ∧ ¬ (enV W u s).2 ≤ bc (nI s) ∧ (litA W (nI s) W.m).gr u = 0 then (nI s, bc (nI s)) else enV W u s
def giW (W : Wv) (p q : Nat) : Wv := litA (setV W p 3 (nI q)) (inB (fun p => W.C p 5) 0 W.m) W.m
def giV (W : Wv) (p : Nat) : Nat → Int32 × Int32
  | 0 => (0, -2147483648)
  | q + 1 => if scoreV (giW W p q) ≤ (giV W p q).2 then giV W p q else (nI q, scoreV (giW W p q))
abbrev msV (W : Wv) (H : Hv) (k c : Nat) (x : Int32) : Prop := mx0 (lightV (minVN (H.k1 k) (setV W (H.k0 k) c x)) (H.k0 k)) = H.k2 k
def amB (W : Wv) (H : Hv) (p c : Nat) (x : Int32) : Nat → Bool
  | 0 => true
  | k + 1 => amB W H p c x k && (!decide (H.k0 k = p) || decide (msV W H k c x))
theorem amB_f {W : Wv} {H : Hv} {p c : Nat} {x : Int32} : ∀ {n k : Nat}, k ≤ n → amB W H p c x k = false → amB W H p c x n = false
  | 0, k, h, e => by rw [show k = 0 by omega] at e; exact e
  | n + 1, k, h, e => by
    rcases Nat.lt_or_ge k (n + 1) with q | q
    · unfold amB; rw [amB_f (n := n) (by omega) e]; rfl
    · rw [show n + 1 = k by omega]; exact e
def fiV (W : Wv) (H : Hv) (p c : Nat) : Nat → Int32
  | 0 => 0
  | v + 1 => if amB W H p c (nI v) H.nk = true then fiV W H p c v ||| ((1 : Int32) <<< (nI v &&& 31)) else fiV W H p c v
def odV (W : Wv) (p : Nat) : Nat → Nat
  | 0 => 0
  | n + 1 => if lightV (minV (rnV W (W.mm % 4) (nI n))) p ≤ 0 then odV W p n else odV W p n + 1
theorem odV_le {W : Wv} {p : Nat} : ∀ n, odV W p n ≤ n
  | 0 => Nat.le_refl 0
  | n + 1 => by
    have := odV_le (W := W) (p := p) n
    unfold odV
    split <;> omega
def ac1 (W : Wv) (a p : Nat) : Wv := if a = 0 then minV W else if a = 2 then setV W p 4 0 else if a = 3 then setV W p 5 0 else if W.C p 5 = 0 then litV W p else W
def acV (W : Wv) (H : Hv) : Nat → Wv
  | 0 => W
  | k + 1 => ac1 (acV W H k) (H.p0 k) (H.p1 k)
theorem ac1_ok {W : Wv} (h : okW W) (hm : W.mm + 1 < 20000) {a p : Nat} (hp : a ≠ 0 → p < W.m) : okW (ac1 W a p) ∧ (ac1 W a p).m = W.m ∧ (ac1 W a p).mm ≤ W.mm + 1 := by
  unfold ac1
  by_cases a0 : a = 0
  · rw [if_pos a0]; exact ⟨minV_ok h hm, rfl, Nat.le_refl _⟩
  rw [if_neg a0]
  by_cases a2 : a = 2
  · rw [if_pos a2]; exact ⟨setV_ok h (by omega) (by omega), rfl, Nat.le_succ _⟩
  rw [if_neg a2]
  by_cases a3 : a = 3
  · rw [if_pos a3]; exact ⟨setV_ok h (by omega) (by omega), rfl, Nat.le_succ _⟩
  rw [if_neg a3]
  by_cases c : W.C p 5 = 0
  · rw [if_pos c]; exact ⟨litV_ok h (hp a0), rfl, Nat.le_succ _⟩
  · rw [if_neg c]; exact ⟨h, rfl, Nat.le_succ _⟩
theorem acV_ok {W : Wv} {H : Hv} (h : okW W) (hm : W.mm + 20 < 20000) (hh : okH W.m H) : ∀ k, k ≤ H.np → okW (acV W H k) ∧ (acV W H k).m = W.m ∧ (acV W H k).mm ≤ W.mm + k
  | 0, _ => ⟨h, rfl, Nat.le_refl _⟩
  | k + 1, hk => by
    obtain ⟨i1, i2, i3⟩ := acV_ok h hm hh k (by omega)
    have h10 := hh.2.2.1
    obtain ⟨j1, j2, j3⟩ := ac1_ok i1 (by omega) (a := H.p0 k) (p := H.p1 k) (fun e => by rw [i2]; exact (hh.2.2.2.1 k (by omega)).2 e)
    exact ⟨j1, j2.trans i2, by show (ac1 _ _ _).mm ≤ _; omega⟩
def r_ntz (G : Gt) (L : Lt) (a : Int32) : Int32 := if 0 < ((a ^^^ (-1)) &&& (a - 1)) then (if ((a ^^^ (-1)) &&& (a - 1)) ≤ 65536 then (if ((a ^^^ (-1)) &&& (a - 1)) ≤ 256 then (if ((a ^^^ (-1)) &&& (a - 1)) ≤ 16 then (if ((a ^^^ (-1)) &&& (a - 1)) ≤ 4 then (1 + ((((a ^^^ (-1)) &&& (a - 1))).toUInt32 >>> ((1 : Int32).toUInt32 &&& Int32.toUInt32 31)).toInt32) else (3 + ((((((a ^^^ (-1)) &&& (a - 1))).toUInt32 >>> ((2 : Int32).toUInt32 &&& Int32.toUInt32 31)).toInt32).toUInt32 >>> ((1 : Int32).toUInt32 &&& Int32.toUInt32 31)).toInt32)) else (if ((((a ^^^ (-1)) &&& (a - 1))).toUInt32 >>> ((4 : Int32).toUInt32 &&& Int32.toUInt32 31)).toInt32 ≤ 4 then (5 + ((((((a ^^^ (-1)) &&& (a - 1))).toUInt32 >>> ((4 : Int32).toUInt32 &&& Int32.toUInt32 31)).toInt32).toUInt32 >>> ((1 : Int32).toUInt32 &&& Int32.toUInt32 31)).toInt32) else (7 + ((((((((a ^^^ (-1)) &&& (a - 1))).toUInt32 >>> ((4 : Int32).toUInt32 &&& Int32.toUInt32 31)).toInt32).toUInt32 >>> ((2 : Int32).toUInt32 &&& Int32.toUInt32 31)).toInt32).toUInt32 >>> ((1 : Int32).toUInt32 &&& Int32.toUInt32 31)).toInt32))) else (if ((((a ^^^ (-1)) &&& (a - 1))).toUInt32 >>> ((8 : Int32).toUInt32 &&& Int32.toUInt32 31)).toInt32 ≤ 16 then (if ((((a ^^^ (-1)) &&& (a - 1))).toUInt32 >>> ((8 : Int32).toUInt32 &&& Int32.toUInt32 31)).toInt32 ≤ 4 then (9 + ((((((a ^^^ (-1)) &&& (a - 1))).toUInt32 >>> ((8 : Int32).toUInt32 &&& Int32.toUInt32 31)).toInt32).toUInt32 >>> ((1 : Int32).toUInt32 &&& Int32.toUInt32 31)).toInt32) else (11 + ((((((((a ^^^ (-1)) &&& (a - 1))).toUInt32 >>> ((8 : Int32).toUInt32 &&& Int32.toUInt32 31)).toInt32).toUInt32 >>> ((2 : Int32).toUInt32 &&& Int32.toUInt32 31)).toInt32).toUInt32 >>> ((1 : Int32).toUInt32 &&& Int32.toUInt32 31)).toInt32)) else (if ((((((a ^^^ (-1)) &&& (a - 1))).toUInt32 >>> ((8 : Int32).toUInt32 &&& Int32.toUInt32 31)).toInt32).toUInt32 >>> ((4 : Int32).toUInt32 &&& Int32.toUInt32 31)).toInt32 ≤ 4 then (13 + ((((((((a ^^^ (-1)) &&& (a - 1))).toUInt32 >>> ((8 : Int32).toUInt32 &&& Int32.toUInt32 31)).toInt32).toUInt32 >>> ((4 : Int32).toUInt32 &&& Int32.toUInt32 31)).toInt32).toUInt32 >>> ((1 : Int32).toUInt32 &&& Int32.toUInt32 31)).toInt32) else (15 + ((((((((((a ^^^ (-1)) &&& (a - 1))).toUInt32 >>> ((8 : Int32).toUInt32 &&& Int32.toUInt32 31)).toInt32).toUInt32 >>> ((4 : Int32).toUInt32 &&& Int32.toUInt32 31)).toInt32).toUInt32 >>> ((2 : Int32).toUInt32 &&& Int32.toUInt32 31)).toInt32).toUInt32 >>> ((1 : Int32).toUInt32 &&& Int32.toUInt32 31)).toInt32)))) else (if ((((a ^^^ (-1)) &&& (a - 1))).toUInt32 >>> ((16 : Int32).toUInt32 &&& Int32.toUInt32 31)).toInt32 ≤ 256 then (if ((((a ^^^ (-1)) &&& (a - 1))).toUInt32 >>> ((16 : Int32).toUInt32 &&& Int32.toUInt32 31)).toInt32 ≤ 16 then (if ((((a ^^^ (-1)) &&& (a - 1))).toUInt32 >>> ((16 : Int32).toUInt32 &&& Int32.toUInt32 31)).toInt32 ≤ 4 then (17 + ((((((a ^^^ (-1)) &&& (a - 1))).toUInt32 >>> ((16 : Int32).toUInt32 &&& Int32.toUInt32 31)).toInt32).toUInt32 >>> ((1 : Int32).toUInt32 &&& Int32.toUInt32 31)).toInt32) else (19 + ((((((((a ^^^ (-1)) &&& (a - 1))).toUInt32 >>> ((16 : Int32).toUInt32 &&& Int32.toUInt32 31)).toInt32).toUInt32 >>> ((2 : Int32).toUInt32 &&& Int32.toUInt32 31)).toInt32).toUInt32 >>> ((1 : Int32).toUInt32 &&& Int32.toUInt32 31)).toInt32)) else (if ((((((a ^^^ (-1)) &&& (a - 1))).toUInt32 >>> ((16 : Int32).toUInt32 &&& Int32.toUInt32 31)).toInt32).toUInt32 >>> ((4 : Int32).toUInt32 &&& Int32.toUInt32 31)).toInt32 ≤ 4 then (21 + ((((((((a ^^^ (-1)) &&& (a - 1))).toUInt32 >>> ((16 : Int32).toUInt32 &&& Int32.toUInt32 31)).toInt32).toUInt32 >>> ((4 : Int32).toUInt32 &&& Int32.toUInt32 31)).toInt32).toUInt32 >>> ((1 : Int32).toUInt32 &&& Int32.toUInt32 31)).toInt32) else (23 + ((((((((((a ^^^ (-1)) &&& (a - 1))).toUInt32 >>> ((16 : Int32).toUInt32 &&& Int32.toUInt32 31)).toInt32).toUInt32 >>> ((4 : Int32).toUInt32 &&& Int32.toUInt32 31)).toInt32).toUInt32 >>> ((2 : Int32).toUInt32 &&& Int32.toUInt32 31)).toInt32).toUInt32 >>> ((1 : Int32).toUInt32 &&& Int32.toUInt32 31)).toInt32))) else (if ((((((a ^^^ (-1)) &&& (a - 1))).toUInt32 >>> ((16 : Int32).toUInt32 &&& Int32.toUInt32 31)).toInt32).toUInt32 >>> ((8 : Int32).toUInt32 &&& Int32.toUInt32 31)).toInt32 ≤ 16 then (if ((((((a ^^^ (-1)) &&& (a - 1))).toUInt32 >>> ((16 : Int32).toUInt32 &&& Int32.toUInt32 31)).toInt32).toUInt32 >>> ((8 : Int32).toUInt32 &&& Int32.toUInt32 31)).toInt32 ≤ 4 then (25 + ((((((((a ^^^ (-1)) &&& (a - 1))).toUInt32 >>> ((16 : Int32).toUInt32 &&& Int32.toUInt32 31)).toInt32).toUInt32 >>> ((8 : Int32).toUInt32 &&& Int32.toUInt32 31)).toInt32).toUInt32 >>> ((1 : Int32).toUInt32 &&& Int32.toUInt32 31)).toInt32) else (27 + ((((((((((a ^^^ (-1)) &&& (a - 1))).toUInt32 >>> ((16 : Int32).toUInt32 &&& Int32.toUInt32 31)).toInt32).toUInt32 >>> ((8 : Int32).toUInt32 &&& Int32.toUInt32 31)).toInt32).toUInt32 >>> ((2 : Int32).toUInt32 &&& Int32.toUInt32 31)).toInt32).toUInt32 >>> ((1 : Int32).toUInt32 &&& Int32.toUInt32 31)).toInt32)) else (if ((((((((a ^^^ (-1)) &&& (a - 1))).toUInt32 >>> ((16 : Int32).toUInt32 &&& Int32.toUInt32 31)).toInt32).toUInt32 >>> ((8 : Int32).toUInt32 &&& Int32.toUInt32 31)).toInt32).toUInt32 >>> ((4 : Int32).toUInt32 &&& Int32.toUInt32 31)).toInt32 ≤ 4 then (29 + ((((((((((a ^^^ (-1)) &&& (a - 1))).toUInt32 >>> ((16 : Int32).toUInt32 &&& Int32.toUInt32 31)).toInt32).toUInt32 >>> ((8 : Int32).toUInt32 &&& Int32.toUInt32 31)).toInt32).toUInt32 >>> ((4 : Int32).toUInt32 &&& Int32.toUInt32 31)).toInt32).toUInt32 >>> ((1 : Int32).toUInt32 &&& Int32.toUInt32 31)).toInt32) else (31 + ((((((((((((a ^^^ (-1)) &&& (a - 1))).toUInt32 >>> ((16 : Int32).toUInt32 &&& Int32.toUInt32 31)).toInt32).toUInt32 >>> ((8 : Int32).toUInt32 &&& Int32.toUInt32 31)).toInt32).toUInt32 >>> ((4 : Int32).toUInt32 &&& Int32.toUInt32 31)).toInt32).toUInt32 >>> ((2 : Int32).toUInt32 &&& Int32.toUInt32 31)).toInt32).toUInt32 >>> ((1 : Int32).toUInt32 &&& Int32.toUInt32 31)).toInt32))))) else (((a ^^^ (-1)) &&& (a - 1)) &&& 32)
theorem c_ntz {Z : Zt} {G : Gt} {L : Lt}   (a : Int32)  : AC mJ6_numberOfTrailingZeros_0f7a4 1 0 0 [.int a] Z G L (DQ (some (.int (r_ntz G L a))) Z G L) := by
  refine AC.intro (by decide +kernel) (Nat.le_of_ble_eq_true rfl) ?_
  refine ax_lv [(0, .int a)] ⟨rfl, trivial⟩ ?_
  refine ax_iload_n (i := 0) dJ6_numberOfTrailingZeros_0f7a4_0 rfl rfl ?_
  refine ax_iconst (v := (-1)) dJ6_numberOfTrailingZeros_0f7a4_1 (by decide) ?_
  refine ax_ixor dJ6_numberOfTrailingZeros_0f7a4_2 ?_
  refine ax_iload_n (i := 0) dJ6_numberOfTrailingZeros_0f7a4_3 rfl rfl ?_
  refine ax_iconst (v := 1) dJ6_numberOfTrailingZeros_0f7a4_4 (by decide) ?_
  refine ax_isub dJ6_numberOfTrailingZeros_0f7a4_5 ?_
  refine ax_iand dJ6_numberOfTrailingZeros_0f7a4_6 ?_
  refine ax_istore_n (i := 0) dJ6_numberOfTrailingZeros_0f7a4_7 rfl (by decide) rfl ?_
  refine ax_iload_n (i := 0) dJ6_numberOfTrailingZeros_0f7a4_8 rfl rfl ?_
  refine ax_if_gt (tgt := 17) dJ6_numberOfTrailingZeros_0f7a4_9 (by decide) (fun c_9 => ?_) (fun c_9 => ?_)
  · refine ax_iconst (v := 1) dJ6_numberOfTrailingZeros_0f7a4_17 (by decide) ?_
    refine ax_istore_n (i := 1) dJ6_numberOfTrailingZeros_0f7a4_18 rfl (by decide) rfl ?_
    refine ax_iload_n (i := 0) dJ6_numberOfTrailingZeros_0f7a4_19 rfl rfl ?_
    refine ax_ldcw dJ6_numberOfTrailingZeros_0f7a4_20 wk_J6_264 ?_
    refine ax_icmp_le (tgt := 34) dJ6_numberOfTrailingZeros_0f7a4_23 (by decide) (fun c_23 => ?_) (fun c_23 => ?_)
    · refine ax_iload_n (i := 0) dJ6_numberOfTrailingZeros_0f7a4_34 rfl rfl ?_
      refine ax_sipush (v := 256) dJ6_numberOfTrailingZeros_0f7a4_35 (by decide) ?_
      refine ax_icmp_le (tgt := 49) dJ6_numberOfTrailingZeros_0f7a4_38 (by decide) (fun c_38 => ?_) (fun c_38 => ?_)
      · refine ax_iload_n (i := 0) dJ6_numberOfTrailingZeros_0f7a4_49 rfl rfl ?_
        refine ax_bipush (v := 16) dJ6_numberOfTrailingZeros_0f7a4_50 (by decide) ?_
        refine ax_icmp_le (tgt := 62) dJ6_numberOfTrailingZeros_0f7a4_52 (by decide) (fun c_52 => ?_) (fun c_52 => ?_)
        · refine ax_iload_n (i := 0) dJ6_numberOfTrailingZeros_0f7a4_62 rfl rfl ?_
          refine ax_iconst (v := 4) dJ6_numberOfTrailingZeros_0f7a4_63 (by decide) ?_
          refine ax_icmp_le (tgt := 74) dJ6_numberOfTrailingZeros_0f7a4_64 (by decide) (fun c_64 => ?_) (fun c_64 => ?_)
          · refine ax_iload_n (i := 1) dJ6_numberOfTrailingZeros_0f7a4_74 rfl rfl ?_
            refine ax_iload_n (i := 0) dJ6_numberOfTrailingZeros_0f7a4_75 rfl rfl ?_
            refine ax_iconst (v := 1) dJ6_numberOfTrailingZeros_0f7a4_76 (by decide) ?_
            refine ax_iushr dJ6_numberOfTrailingZeros_0f7a4_77 rfl ?_
            refine ax_iadd dJ6_numberOfTrailingZeros_0f7a4_78 ?_
            refine ax_iret dJ6_numberOfTrailingZeros_0f7a4_79 rfl rfl (Nat.le_of_ble_eq_true rfl) (Nat.le_of_ble_eq_true rfl) ?_
            exact ⟨congrArg (fun z => some (Value.int z)) (Eq.symm (by unfold r_ntz; (try rw [if_pos c_9]); (try rw [if_pos c_23]); (try rw [if_pos c_38]); (try rw [if_pos c_52]); (try rw [if_pos c_64]); first | done | rfl)), rfl, rfl, rfl⟩
          · refine ax_iinc (v := 1 + 2) dJ6_numberOfTrailingZeros_0f7a4_67 rfl rfl (by decide) rfl ?_
            refine ax_iload_n (i := 0) dJ6_numberOfTrailingZeros_0f7a4_70 rfl rfl ?_
            refine ax_iconst (v := 2) dJ6_numberOfTrailingZeros_0f7a4_71 (by decide) ?_
            refine ax_iushr dJ6_numberOfTrailingZeros_0f7a4_72 rfl ?_
            refine ax_istore_n (i := 0) dJ6_numberOfTrailingZeros_0f7a4_73 rfl (by decide) rfl ?_
            refine ax_iload_n (i := 1) dJ6_numberOfTrailingZeros_0f7a4_74 rfl rfl ?_
            refine ax_iload_n (i := 0) dJ6_numberOfTrailingZeros_0f7a4_75 rfl rfl ?_
            refine ax_iconst (v := 1) dJ6_numberOfTrailingZeros_0f7a4_76 (by decide) ?_
            refine ax_iushr dJ6_numberOfTrailingZeros_0f7a4_77 rfl ?_
            refine ax_iadd dJ6_numberOfTrailingZeros_0f7a4_78 ?_
            refine ax_iret dJ6_numberOfTrailingZeros_0f7a4_79 rfl rfl (Nat.le_of_ble_eq_true rfl) (Nat.le_of_ble_eq_true rfl) ?_
            exact ⟨congrArg (fun z => some (Value.int z)) (Eq.symm (by unfold r_ntz; (try rw [if_pos c_9]); (try rw [if_pos c_23]); (try rw [if_pos c_38]); (try rw [if_pos c_52]); (try rw [if_neg c_64]); first | done | rfl)), rfl, rfl, rfl⟩
        · refine ax_iinc (v := 1 + 4) dJ6_numberOfTrailingZeros_0f7a4_55 rfl rfl (by decide) rfl ?_
          refine ax_iload_n (i := 0) dJ6_numberOfTrailingZeros_0f7a4_58 rfl rfl ?_
          refine ax_iconst (v := 4) dJ6_numberOfTrailingZeros_0f7a4_59 (by decide) ?_
          refine ax_iushr dJ6_numberOfTrailingZeros_0f7a4_60 rfl ?_
          refine ax_istore_n (i := 0) dJ6_numberOfTrailingZeros_0f7a4_61 rfl (by decide) rfl ?_
          refine ax_iload_n (i := 0) dJ6_numberOfTrailingZeros_0f7a4_62 rfl rfl ?_
          refine ax_iconst (v := 4) dJ6_numberOfTrailingZeros_0f7a4_63 (by decide) ?_
          refine ax_icmp_le (tgt := 74) dJ6_numberOfTrailingZeros_0f7a4_64 (by decide) (fun c_64 => ?_) (fun c_64 => ?_)
          · refine ax_iload_n (i := 1) dJ6_numberOfTrailingZeros_0f7a4_74 rfl rfl ?_
            refine ax_iload_n (i := 0) dJ6_numberOfTrailingZeros_0f7a4_75 rfl rfl ?_
            refine ax_iconst (v := 1) dJ6_numberOfTrailingZeros_0f7a4_76 (by decide) ?_
            refine ax_iushr dJ6_numberOfTrailingZeros_0f7a4_77 rfl ?_
            refine ax_iadd dJ6_numberOfTrailingZeros_0f7a4_78 ?_
            refine ax_iret dJ6_numberOfTrailingZeros_0f7a4_79 rfl rfl (Nat.le_of_ble_eq_true rfl) (Nat.le_of_ble_eq_true rfl) ?_
            exact ⟨congrArg (fun z => some (Value.int z)) (Eq.symm (by unfold r_ntz; (try rw [if_pos c_9]); (try rw [if_pos c_23]); (try rw [if_pos c_38]); (try rw [if_neg c_52]); (try rw [if_pos c_64]); first | done | rfl)), rfl, rfl, rfl⟩
          · refine ax_iinc (v := 5 + 2) dJ6_numberOfTrailingZeros_0f7a4_67 rfl rfl (by decide) rfl ?_
            refine ax_iload_n (i := 0) dJ6_numberOfTrailingZeros_0f7a4_70 rfl rfl ?_
            refine ax_iconst (v := 2) dJ6_numberOfTrailingZeros_0f7a4_71 (by decide) ?_
            refine ax_iushr dJ6_numberOfTrailingZeros_0f7a4_72 rfl ?_
            refine ax_istore_n (i := 0) dJ6_numberOfTrailingZeros_0f7a4_73 rfl (by decide) rfl ?_
            refine ax_iload_n (i := 1) dJ6_numberOfTrailingZeros_0f7a4_74 rfl rfl ?_
            refine ax_iload_n (i := 0) dJ6_numberOfTrailingZeros_0f7a4_75 rfl rfl ?_
            refine ax_iconst (v := 1) dJ6_numberOfTrailingZeros_0f7a4_76 (by decide) ?_
            refine ax_iushr dJ6_numberOfTrailingZeros_0f7a4_77 rfl ?_
            refine ax_iadd dJ6_numberOfTrailingZeros_0f7a4_78 ?_
            refine ax_iret dJ6_numberOfTrailingZeros_0f7a4_79 rfl rfl (Nat.le_of_ble_eq_true rfl) (Nat.le_of_ble_eq_true rfl) ?_
            exact ⟨congrArg (fun z => some (Value.int z)) (Eq.symm (by unfold r_ntz; (try rw [if_pos c_9]); (try rw [if_pos c_23]); (try rw [if_pos c_38]); (try rw [if_neg c_52]); (try rw [if_neg c_64]); first | done | rfl)), rfl, rfl, rfl⟩
      · refine ax_iinc (v := 1 + 8) dJ6_numberOfTrailingZeros_0f7a4_41 rfl rfl (by decide) rfl ?_
        refine ax_iload_n (i := 0) dJ6_numberOfTrailingZeros_0f7a4_44 rfl rfl ?_
        refine ax_bipush (v := 8) dJ6_numberOfTrailingZeros_0f7a4_45 (by decide) ?_
        refine ax_iushr dJ6_numberOfTrailingZeros_0f7a4_47 rfl ?_
        refine ax_istore_n (i := 0) dJ6_numberOfTrailingZeros_0f7a4_48 rfl (by decide) rfl ?_
        refine ax_iload_n (i := 0) dJ6_numberOfTrailingZeros_0f7a4_49 rfl rfl ?_
        refine ax_bipush (v := 16) dJ6_numberOfTrailingZeros_0f7a4_50 (by decide) ?_
        refine ax_icmp_le (tgt := 62) dJ6_numberOfTrailingZeros_0f7a4_52 (by decide) (fun c_52 => ?_) (fun c_52 => ?_)
        · refine ax_iload_n (i := 0) dJ6_numberOfTrailingZeros_0f7a4_62 rfl rfl ?_
          refine ax_iconst (v := 4) dJ6_numberOfTrailingZeros_0f7a4_63 (by decide) ?_
          refine ax_icmp_le (tgt := 74) dJ6_numberOfTrailingZeros_0f7a4_64 (by decide) (fun c_64 => ?_) (fun c_64 => ?_)
          · refine ax_iload_n (i := 1) dJ6_numberOfTrailingZeros_0f7a4_74 rfl rfl ?_
            refine ax_iload_n (i := 0) dJ6_numberOfTrailingZeros_0f7a4_75 rfl rfl ?_
            refine ax_iconst (v := 1) dJ6_numberOfTrailingZeros_0f7a4_76 (by decide) ?_
            refine ax_iushr dJ6_numberOfTrailingZeros_0f7a4_77 rfl ?_
            refine ax_iadd dJ6_numberOfTrailingZeros_0f7a4_78 ?_
            refine ax_iret dJ6_numberOfTrailingZeros_0f7a4_79 rfl rfl (Nat.le_of_ble_eq_true rfl) (Nat.le_of_ble_eq_true rfl) ?_
            exact ⟨congrArg (fun z => some (Value.int z)) (Eq.symm (by unfold r_ntz; (try rw [if_pos c_9]); (try rw [if_pos c_23]); (try rw [if_neg c_38]); (try rw [if_pos c_52]); (try rw [if_pos c_64]); first | done | rfl)), rfl, rfl, rfl⟩
          · refine ax_iinc (v := 9 + 2) dJ6_numberOfTrailingZeros_0f7a4_67 rfl rfl (by decide) rfl ?_
            refine ax_iload_n (i := 0) dJ6_numberOfTrailingZeros_0f7a4_70 rfl rfl ?_
            refine ax_iconst (v := 2) dJ6_numberOfTrailingZeros_0f7a4_71 (by decide) ?_
            refine ax_iushr dJ6_numberOfTrailingZeros_0f7a4_72 rfl ?_
            refine ax_istore_n (i := 0) dJ6_numberOfTrailingZeros_0f7a4_73 rfl (by decide) rfl ?_
            refine ax_iload_n (i := 1) dJ6_numberOfTrailingZeros_0f7a4_74 rfl rfl ?_
            refine ax_iload_n (i := 0) dJ6_numberOfTrailingZeros_0f7a4_75 rfl rfl ?_
            refine ax_iconst (v := 1) dJ6_numberOfTrailingZeros_0f7a4_76 (by decide) ?_
            refine ax_iushr dJ6_numberOfTrailingZeros_0f7a4_77 rfl ?_
            refine ax_iadd dJ6_numberOfTrailingZeros_0f7a4_78 ?_
            refine ax_iret dJ6_numberOfTrailingZeros_0f7a4_79 rfl rfl (Nat.le_of_ble_eq_true rfl) (Nat.le_of_ble_eq_true rfl) ?_
            exact ⟨congrArg (fun z => some (Value.int z)) (Eq.symm (by unfold r_ntz; (try rw [if_pos c_9]); (try rw [if_pos c_23]); (try rw [if_neg c_38]); (try rw [if_pos c_52]); (try rw [if_neg c_64]); first | done | rfl)), rfl, rfl, rfl⟩
        · refine ax_iinc (v := 9 + 4) dJ6_numberOfTrailingZeros_0f7a4_55 rfl rfl (by decide) rfl ?_
          refine ax_iload_n (i := 0) dJ6_numberOfTrailingZeros_0f7a4_58 rfl rfl ?_
          refine ax_iconst (v := 4) dJ6_numberOfTrailingZeros_0f7a4_59 (by decide) ?_
          refine ax_iushr dJ6_numberOfTrailingZeros_0f7a4_60 rfl ?_
          refine ax_istore_n (i := 0) dJ6_numberOfTrailingZeros_0f7a4_61 rfl (by decide) rfl ?_
          refine ax_iload_n (i := 0) dJ6_numberOfTrailingZeros_0f7a4_62 rfl rfl ?_
          refine ax_iconst (v := 4) dJ6_numberOfTrailingZeros_0f7a4_63 (by decide) ?_
          refine ax_icmp_le (tgt := 74) dJ6_numberOfTrailingZeros_0f7a4_64 (by decide) (fun c_64 => ?_) (fun c_64 => ?_)
          · refine ax_iload_n (i := 1) dJ6_numberOfTrailingZeros_0f7a4_74 rfl rfl ?_
            refine ax_iload_n (i := 0) dJ6_numberOfTrailingZeros_0f7a4_75 rfl rfl ?_
            refine ax_iconst (v := 1) dJ6_numberOfTrailingZeros_0f7a4_76 (by decide) ?_
            refine ax_iushr dJ6_numberOfTrailingZeros_0f7a4_77 rfl ?_
            refine ax_iadd dJ6_numberOfTrailingZeros_0f7a4_78 ?_
            refine ax_iret dJ6_numberOfTrailingZeros_0f7a4_79 rfl rfl (Nat.le_of_ble_eq_true rfl) (Nat.le_of_ble_eq_true rfl) ?_
            exact ⟨congrArg (fun z => some (Value.int z)) (Eq.symm (by unfold r_ntz; (try rw [if_pos c_9]); (try rw [if_pos c_23]); (try rw [if_neg c_38]); (try rw [if_neg c_52]); (try rw [if_pos c_64]); first | done | rfl)), rfl, rfl, rfl⟩
          · refine ax_iinc (v := 13 + 2) dJ6_numberOfTrailingZeros_0f7a4_67 rfl rfl (by decide) rfl ?_
            refine ax_iload_n (i := 0) dJ6_numberOfTrailingZeros_0f7a4_70 rfl rfl ?_
            refine ax_iconst (v := 2) dJ6_numberOfTrailingZeros_0f7a4_71 (by decide) ?_
            refine ax_iushr dJ6_numberOfTrailingZeros_0f7a4_72 rfl ?_
            refine ax_istore_n (i := 0) dJ6_numberOfTrailingZeros_0f7a4_73 rfl (by decide) rfl ?_
            refine ax_iload_n (i := 1) dJ6_numberOfTrailingZeros_0f7a4_74 rfl rfl ?_
            refine ax_iload_n (i := 0) dJ6_numberOfTrailingZeros_0f7a4_75 rfl rfl ?_
            refine ax_iconst (v := 1) dJ6_numberOfTrailingZeros_0f7a4_76 (by decide) ?_
            refine ax_iushr dJ6_numberOfTrailingZeros_0f7a4_77 rfl ?_
            refine ax_iadd dJ6_numberOfTrailingZeros_0f7a4_78 ?_
            refine ax_iret dJ6_numberOfTrailingZeros_0f7a4_79 rfl rfl (Nat.le_of_ble_eq_true rfl) (Nat.le_of_ble_eq_true rfl) ?_
            exact ⟨congrArg (fun z => some (Value.int z)) (Eq.symm (by unfold r_ntz; (try rw [if_pos c_9]); (try rw [if_pos c_23]); (try rw [if_neg c_38]); (try rw [if_neg c_52]); (try rw [if_neg c_64]); first | done | rfl)), rfl, rfl, rfl⟩
    · refine ax_iinc (v := 1 + 16) dJ6_numberOfTrailingZeros_0f7a4_26 rfl rfl (by decide) rfl ?_
      refine ax_iload_n (i := 0) dJ6_numberOfTrailingZeros_0f7a4_29 rfl rfl ?_
      refine ax_bipush (v := 16) dJ6_numberOfTrailingZeros_0f7a4_30 (by decide) ?_
      refine ax_iushr dJ6_numberOfTrailingZeros_0f7a4_32 rfl ?_
      refine ax_istore_n (i := 0) dJ6_numberOfTrailingZeros_0f7a4_33 rfl (by decide) rfl ?_
      refine ax_iload_n (i := 0) dJ6_numberOfTrailingZeros_0f7a4_34 rfl rfl ?_
      refine ax_sipush (v := 256) dJ6_numberOfTrailingZeros_0f7a4_35 (by decide) ?_
      refine ax_icmp_le (tgt := 49) dJ6_numberOfTrailingZeros_0f7a4_38 (by decide) (fun c_38 => ?_) (fun c_38 => ?_)
      · refine ax_iload_n (i := 0) dJ6_numberOfTrailingZeros_0f7a4_49 rfl rfl ?_
        refine ax_bipush (v := 16) dJ6_numberOfTrailingZeros_0f7a4_50 (by decide) ?_
        refine ax_icmp_le (tgt := 62) dJ6_numberOfTrailingZeros_0f7a4_52 (by decide) (fun c_52 => ?_) (fun c_52 => ?_)
        · refine ax_iload_n (i := 0) dJ6_numberOfTrailingZeros_0f7a4_62 rfl rfl ?_
          refine ax_iconst (v := 4) dJ6_numberOfTrailingZeros_0f7a4_63 (by decide) ?_
          refine ax_icmp_le (tgt := 74) dJ6_numberOfTrailingZeros_0f7a4_64 (by decide) (fun c_64 => ?_) (fun c_64 => ?_)
          · refine ax_iload_n (i := 1) dJ6_numberOfTrailingZeros_0f7a4_74 rfl rfl ?_
            refine ax_iload_n (i := 0) dJ6_numberOfTrailingZeros_0f7a4_75 rfl rfl ?_
            refine ax_iconst (v := 1) dJ6_numberOfTrailingZeros_0f7a4_76 (by decide) ?_
            refine ax_iushr dJ6_numberOfTrailingZeros_0f7a4_77 rfl ?_
            refine ax_iadd dJ6_numberOfTrailingZeros_0f7a4_78 ?_
            refine ax_iret dJ6_numberOfTrailingZeros_0f7a4_79 rfl rfl (Nat.le_of_ble_eq_true rfl) (Nat.le_of_ble_eq_true rfl) ?_
            exact ⟨congrArg (fun z => some (Value.int z)) (Eq.symm (by unfold r_ntz; (try rw [if_pos c_9]); (try rw [if_neg c_23]); (try rw [if_pos c_38]); (try rw [if_pos c_52]); (try rw [if_pos c_64]); first | done | rfl)), rfl, rfl, rfl⟩
          · refine ax_iinc (v := 17 + 2) dJ6_numberOfTrailingZeros_0f7a4_67 rfl rfl (by decide) rfl ?_
            refine ax_iload_n (i := 0) dJ6_numberOfTrailingZeros_0f7a4_70 rfl rfl ?_
            refine ax_iconst (v := 2) dJ6_numberOfTrailingZeros_0f7a4_71 (by decide) ?_
            refine ax_iushr dJ6_numberOfTrailingZeros_0f7a4_72 rfl ?_
            refine ax_istore_n (i := 0) dJ6_numberOfTrailingZeros_0f7a4_73 rfl (by decide) rfl ?_
            refine ax_iload_n (i := 1) dJ6_numberOfTrailingZeros_0f7a4_74 rfl rfl ?_
            refine ax_iload_n (i := 0) dJ6_numberOfTrailingZeros_0f7a4_75 rfl rfl ?_
            refine ax_iconst (v := 1) dJ6_numberOfTrailingZeros_0f7a4_76 (by decide) ?_
            refine ax_iushr dJ6_numberOfTrailingZeros_0f7a4_77 rfl ?_
            refine ax_iadd dJ6_numberOfTrailingZeros_0f7a4_78 ?_
            refine ax_iret dJ6_numberOfTrailingZeros_0f7a4_79 rfl rfl (Nat.le_of_ble_eq_true rfl) (Nat.le_of_ble_eq_true rfl) ?_
            exact ⟨congrArg (fun z => some (Value.int z)) (Eq.symm (by unfold r_ntz; (try rw [if_pos c_9]); (try rw [if_neg c_23]); (try rw [if_pos c_38]); (try rw [if_pos c_52]); (try rw [if_neg c_64]); first | done | rfl)), rfl, rfl, rfl⟩
        · refine ax_iinc (v := 17 + 4) dJ6_numberOfTrailingZeros_0f7a4_55 rfl rfl (by decide) rfl ?_
          refine ax_iload_n (i := 0) dJ6_numberOfTrailingZeros_0f7a4_58 rfl rfl ?_
          refine ax_iconst (v := 4) dJ6_numberOfTrailingZeros_0f7a4_59 (by decide) ?_
          refine ax_iushr dJ6_numberOfTrailingZeros_0f7a4_60 rfl ?_
          refine ax_istore_n (i := 0) dJ6_numberOfTrailingZeros_0f7a4_61 rfl (by decide) rfl ?_
          refine ax_iload_n (i := 0) dJ6_numberOfTrailingZeros_0f7a4_62 rfl rfl ?_
          refine ax_iconst (v := 4) dJ6_numberOfTrailingZeros_0f7a4_63 (by decide) ?_
          refine ax_icmp_le (tgt := 74) dJ6_numberOfTrailingZeros_0f7a4_64 (by decide) (fun c_64 => ?_) (fun c_64 => ?_)
          · refine ax_iload_n (i := 1) dJ6_numberOfTrailingZeros_0f7a4_74 rfl rfl ?_
            refine ax_iload_n (i := 0) dJ6_numberOfTrailingZeros_0f7a4_75 rfl rfl ?_
            refine ax_iconst (v := 1) dJ6_numberOfTrailingZeros_0f7a4_76 (by decide) ?_
            refine ax_iushr dJ6_numberOfTrailingZeros_0f7a4_77 rfl ?_
            refine ax_iadd dJ6_numberOfTrailingZeros_0f7a4_78 ?_
            refine ax_iret dJ6_numberOfTrailingZeros_0f7a4_79 rfl rfl (Nat.le_of_ble_eq_true rfl) (Nat.le_of_ble_eq_true rfl) ?_
            exact ⟨congrArg (fun z => some (Value.int z)) (Eq.symm (by unfold r_ntz; (try rw [if_pos c_9]); (try rw [if_neg c_23]); (try rw [if_pos c_38]); (try rw [if_neg c_52]); (try rw [if_pos c_64]); first | done | rfl)), rfl, rfl, rfl⟩
          · refine ax_iinc (v := 21 + 2) dJ6_numberOfTrailingZeros_0f7a4_67 rfl rfl (by decide) rfl ?_
            refine ax_iload_n (i := 0) dJ6_numberOfTrailingZeros_0f7a4_70 rfl rfl ?_
            refine ax_iconst (v := 2) dJ6_numberOfTrailingZeros_0f7a4_71 (by decide) ?_
            refine ax_iushr dJ6_numberOfTrailingZeros_0f7a4_72 rfl ?_
            refine ax_istore_n (i := 0) dJ6_numberOfTrailingZeros_0f7a4_73 rfl (by decide) rfl ?_
            refine ax_iload_n (i := 1) dJ6_numberOfTrailingZeros_0f7a4_74 rfl rfl ?_
            refine ax_iload_n (i := 0) dJ6_numberOfTrailingZeros_0f7a4_75 rfl rfl ?_
            refine ax_iconst (v := 1) dJ6_numberOfTrailingZeros_0f7a4_76 (by decide) ?_
            refine ax_iushr dJ6_numberOfTrailingZeros_0f7a4_77 rfl ?_
            refine ax_iadd dJ6_numberOfTrailingZeros_0f7a4_78 ?_
            refine ax_iret dJ6_numberOfTrailingZeros_0f7a4_79 rfl rfl (Nat.le_of_ble_eq_true rfl) (Nat.le_of_ble_eq_true rfl) ?_
            exact ⟨congrArg (fun z => some (Value.int z)) (Eq.symm (by unfold r_ntz; (try rw [if_pos c_9]); (try rw [if_neg c_23]); (try rw [if_pos c_38]); (try rw [if_neg c_52]); (try rw [if_neg c_64]); first | done | rfl)), rfl, rfl, rfl⟩
      · refine ax_iinc (v := 17 + 8) dJ6_numberOfTrailingZeros_0f7a4_41 rfl rfl (by decide) rfl ?_
        refine ax_iload_n (i := 0) dJ6_numberOfTrailingZeros_0f7a4_44 rfl rfl ?_
        refine ax_bipush (v := 8) dJ6_numberOfTrailingZeros_0f7a4_45 (by decide) ?_
        refine ax_iushr dJ6_numberOfTrailingZeros_0f7a4_47 rfl ?_
        refine ax_istore_n (i := 0) dJ6_numberOfTrailingZeros_0f7a4_48 rfl (by decide) rfl ?_
        refine ax_iload_n (i := 0) dJ6_numberOfTrailingZeros_0f7a4_49 rfl rfl ?_
        refine ax_bipush (v := 16) dJ6_numberOfTrailingZeros_0f7a4_50 (by decide) ?_
        refine ax_icmp_le (tgt := 62) dJ6_numberOfTrailingZeros_0f7a4_52 (by decide) (fun c_52 => ?_) (fun c_52 => ?_)
        · refine ax_iload_n (i := 0) dJ6_numberOfTrailingZeros_0f7a4_62 rfl rfl ?_
          refine ax_iconst (v := 4) dJ6_numberOfTrailingZeros_0f7a4_63 (by decide) ?_
          refine ax_icmp_le (tgt := 74) dJ6_numberOfTrailingZeros_0f7a4_64 (by decide) (fun c_64 => ?_) (fun c_64 => ?_)
          · refine ax_iload_n (i := 1) dJ6_numberOfTrailingZeros_0f7a4_74 rfl rfl ?_
            refine ax_iload_n (i := 0) dJ6_numberOfTrailingZeros_0f7a4_75 rfl rfl ?_
            refine ax_iconst (v := 1) dJ6_numberOfTrailingZeros_0f7a4_76 (by decide) ?_
            refine ax_iushr dJ6_numberOfTrailingZeros_0f7a4_77 rfl ?_
            refine ax_iadd dJ6_numberOfTrailingZeros_0f7a4_78 ?_
            refine ax_iret dJ6_numberOfTrailingZeros_0f7a4_79 rfl rfl (Nat.le_of_ble_eq_true rfl) (Nat.le_of_ble_eq_true rfl) ?_
            exact ⟨congrArg (fun z => some (Value.int z)) (Eq.symm (by unfold r_ntz; (try rw [if_pos c_9]); (try rw [if_neg c_23]); (try rw [if_neg c_38]); (try rw [if_pos c_52]); (try rw [if_pos c_64]); first | done | rfl)), rfl, rfl, rfl⟩
          · refine ax_iinc (v := 25 + 2) dJ6_numberOfTrailingZeros_0f7a4_67 rfl rfl (by decide) rfl ?_
            refine ax_iload_n (i := 0) dJ6_numberOfTrailingZeros_0f7a4_70 rfl rfl ?_
            refine ax_iconst (v := 2) dJ6_numberOfTrailingZeros_0f7a4_71 (by decide) ?_
            refine ax_iushr dJ6_numberOfTrailingZeros_0f7a4_72 rfl ?_
            refine ax_istore_n (i := 0) dJ6_numberOfTrailingZeros_0f7a4_73 rfl (by decide) rfl ?_
            refine ax_iload_n (i := 1) dJ6_numberOfTrailingZeros_0f7a4_74 rfl rfl ?_
            refine ax_iload_n (i := 0) dJ6_numberOfTrailingZeros_0f7a4_75 rfl rfl ?_
            refine ax_iconst (v := 1) dJ6_numberOfTrailingZeros_0f7a4_76 (by decide) ?_
            refine ax_iushr dJ6_numberOfTrailingZeros_0f7a4_77 rfl ?_
            refine ax_iadd dJ6_numberOfTrailingZeros_0f7a4_78 ?_
            refine ax_iret dJ6_numberOfTrailingZeros_0f7a4_79 rfl rfl (Nat.le_of_ble_eq_true rfl) (Nat.le_of_ble_eq_true rfl) ?_
            exact ⟨congrArg (fun z => some (Value.int z)) (Eq.symm (by unfold r_ntz; (try rw [if_pos c_9]); (try rw [if_neg c_23]); (try rw [if_neg c_38]); (try rw [if_pos c_52]); (try rw [if_neg c_64]); first | done | rfl)), rfl, rfl, rfl⟩
        · refine ax_iinc (v := 25 + 4) dJ6_numberOfTrailingZeros_0f7a4_55 rfl rfl (by decide) rfl ?_
          refine ax_iload_n (i := 0) dJ6_numberOfTrailingZeros_0f7a4_58 rfl rfl ?_
          refine ax_iconst (v := 4) dJ6_numberOfTrailingZeros_0f7a4_59 (by decide) ?_
          refine ax_iushr dJ6_numberOfTrailingZeros_0f7a4_60 rfl ?_
          refine ax_istore_n (i := 0) dJ6_numberOfTrailingZeros_0f7a4_61 rfl (by decide) rfl ?_
          refine ax_iload_n (i := 0) dJ6_numberOfTrailingZeros_0f7a4_62 rfl rfl ?_
          refine ax_iconst (v := 4) dJ6_numberOfTrailingZeros_0f7a4_63 (by decide) ?_
          refine ax_icmp_le (tgt := 74) dJ6_numberOfTrailingZeros_0f7a4_64 (by decide) (fun c_64 => ?_) (fun c_64 => ?_)
          · refine ax_iload_n (i := 1) dJ6_numberOfTrailingZeros_0f7a4_74 rfl rfl ?_
            refine ax_iload_n (i := 0) dJ6_numberOfTrailingZeros_0f7a4_75 rfl rfl ?_
            refine ax_iconst (v := 1) dJ6_numberOfTrailingZeros_0f7a4_76 (by decide) ?_
            refine ax_iushr dJ6_numberOfTrailingZeros_0f7a4_77 rfl ?_
            refine ax_iadd dJ6_numberOfTrailingZeros_0f7a4_78 ?_
            refine ax_iret dJ6_numberOfTrailingZeros_0f7a4_79 rfl rfl (Nat.le_of_ble_eq_true rfl) (Nat.le_of_ble_eq_true rfl) ?_
            exact ⟨congrArg (fun z => some (Value.int z)) (Eq.symm (by unfold r_ntz; (try rw [if_pos c_9]); (try rw [if_neg c_23]); (try rw [if_neg c_38]); (try rw [if_neg c_52]); (try rw [if_pos c_64]); first | done | rfl)), rfl, rfl, rfl⟩
          · refine ax_iinc (v := 29 + 2) dJ6_numberOfTrailingZeros_0f7a4_67 rfl rfl (by decide) rfl ?_
            refine ax_iload_n (i := 0) dJ6_numberOfTrailingZeros_0f7a4_70 rfl rfl ?_
            refine ax_iconst (v := 2) dJ6_numberOfTrailingZeros_0f7a4_71 (by decide) ?_
            refine ax_iushr dJ6_numberOfTrailingZeros_0f7a4_72 rfl ?_
            refine ax_istore_n (i := 0) dJ6_numberOfTrailingZeros_0f7a4_73 rfl (by decide) rfl ?_
            refine ax_iload_n (i := 1) dJ6_numberOfTrailingZeros_0f7a4_74 rfl rfl ?_
            refine ax_iload_n (i := 0) dJ6_numberOfTrailingZeros_0f7a4_75 rfl rfl ?_
            refine ax_iconst (v := 1) dJ6_numberOfTrailingZeros_0f7a4_76 (by decide) ?_
            refine ax_iushr dJ6_numberOfTrailingZeros_0f7a4_77 rfl ?_
            refine ax_iadd dJ6_numberOfTrailingZeros_0f7a4_78 ?_
            refine ax_iret dJ6_numberOfTrailingZeros_0f7a4_79 rfl rfl (Nat.le_of_ble_eq_true rfl) (Nat.le_of_ble_eq_true rfl) ?_
            exact ⟨congrArg (fun z => some (Value.int z)) (Eq.symm (by unfold r_ntz; (try rw [if_pos c_9]); (try rw [if_neg c_23]); (try rw [if_neg c_38]); (try rw [if_neg c_52]); (try rw [if_neg c_64]); first | done | rfl)), rfl, rfl, rfl⟩
  · refine ax_iload_n (i := 0) dJ6_numberOfTrailingZeros_0f7a4_12 rfl rfl ?_
    refine ax_bipush (v := 32) dJ6_numberOfTrailingZeros_0f7a4_13 (by decide) ?_
    refine ax_iand dJ6_numberOfTrailingZeros_0f7a4_15 ?_
    refine ax_iret dJ6_numberOfTrailingZeros_0f7a4_16 rfl rfl (Nat.le_of_ble_eq_true rfl) (Nat.le_of_ble_eq_true rfl) ?_
    exact ⟨congrArg (fun z => some (Value.int z)) (Eq.symm (by unfold r_ntz; (try rw [if_neg c_9]); first | done | rfl)), rfl, rfl, rfl⟩
theorem l_enoughFor {Z0 : Zt} {G0 : Gt} {L : Lt} {Q : Qt} {W : Wv} (hZ : OK Z0) (hv : vC Z0 G0 24 W) (ho : okW W) (u : Nat) (hu : u < 4) (hend : ∀ Z G, trP Z0 G0 Z G → AX none mX11_enoughFor 7 0 0 0 0 94 [(3, .int (enV W u 64).1)] [] Z G L Q) : ∀ (n q : Nat), q ≤ 64 → 64 - q < n → ∀ Z G, trP Z0 G0 Z G → AX none mX11_enoughFor 7 0 0 0 0 19 [(0, .ref 0), (1, .int (nI u)), (2, .int (inB (fun p => W.C p 5) 0 W.m)), (3, .int (enV W u q).1), (4, .int (enV W u q).2), (5, .int (nI q))] [] Z G L Q := by
  intro n
  induction n with
  | zero => intro q h1 h2; omega
  | succ n ih =>
    intro q h1 h2 Z G t9 
    have hZ9 := trP_OK t9 hZ
    refine ax_iload dX11_enoughFor_19 rfl ?_
    refine ax_bipush (v := 64) dX11_enoughFor_21 (by decide) ?_
    refine ax_icmp_ge (tgt := 94) dX11_enoughFor_23 (by decide) (fun c_23 => ?_) (fun c_23 => ?_)
    · obtain rfl : q = 64 := by have := (nI_leI (by omega) (by omega)).mp (show nI 64 ≤ nI q from c_23); omega
      exact ax_lv [(3, .int (enV W u 64).1)] ⟨rfl, trivial⟩ (hend _ _ t9)
    · have hqm : q < 64 := by have := mt (nI_leI (by omega) (by omega)).mpr (show ¬ nI 64 ≤ nI q from c_23); omega
      refine ax_iload dX11_enoughFor_26 rfl ?_
      refine ax_cSv dX11_enoughFor_28 lk_X11_176 (c_bitCount (nI q)) rfl rfl (Nat.le_of_ble_eq_true rfl) (Nat.le_of_ble_eq_true rfl) (Nat.le_of_ble_eq_true rfl) (Nat.le_of_ble_eq_true rfl) ?_
      refine ax_istore dX11_enoughFor_31 (by decide) rfl ?_
      refine ax_iload dX11_enoughFor_33 rfl ?_
      refine ax_iload_n (i := 2) dX11_enoughFor_35 rfl rfl ?_
      refine ax_iconst (v := (-1)) dX11_enoughFor_36 (by decide) ?_
      refine ax_ixor dX11_enoughFor_37 ?_
      refine ax_iand dX11_enoughFor_38 ?_
      refine ax_if_ne (tgt := 88) dX11_enoughFor_39 (by decide) (fun c_39 => ?_) (fun c_39 => ?_)
      · refine ax_iinc (v := (nI q) + 1) dX11_enoughFor_88 rfl rfl (by decide) rfl ?_
        refine ax_goto (tgt := 19) dX11_enoughFor_91 (by decide) ?_
        refine ax_lv [(0, .ref 0), (1, .int (nI u)), (2, .int (inB (fun p => W.C p 5) 0 W.m)), (3, .int (enV W u (q + 1)).1), (4, .int (enV W u (q + 1)).2), (5, .int (nI (q + 1)))] ⟨rfl, rfl, rfl, sI (by rw [enV]; rw [if_neg (fun z => c_39 z.1)]), sI (by rw [enV]; rw [if_neg (fun z => c_39 z.1)]), sI (nI_1 q), trivial⟩ ?_
        exact ih (q + 1) (by omega) (by omega) _ _ t9
      · refine ax_iload dX11_enoughFor_42 rfl ?_
        refine ax_iload dX11_enoughFor_44 rfl ?_
        refine ax_icmp_ge (tgt := 88) dX11_enoughFor_46 (by decide) (fun c_46 => ?_) (fun c_46 => ?_)
        · refine ax_iinc (v := (nI q) + 1) dX11_enoughFor_88 rfl rfl (by decide) rfl ?_
          refine ax_goto (tgt := 19) dX11_enoughFor_91 (by decide) ?_
          refine ax_lv [(0, .ref 0), (1, .int (nI u)), (2, .int (inB (fun p => W.C p 5) 0 W.m)), (3, .int (enV W u (q + 1)).1), (4, .int (enV W u (q + 1)).2), (5, .int (nI (q + 1)))] ⟨rfl, rfl, rfl, sI (by rw [enV]; rw [if_neg (fun z => z.2.1 c_46)]), sI (by rw [enV]; rw [if_neg (fun z => z.2.1 c_46)]), sI (nI_1 q), trivial⟩ ?_
          exact ih (q + 1) (by omega) (by omega) _ _ t9
        · refine ax_aload_n (i := 0) dX11_enoughFor_49 rfl rfl ?_
          refine ax_getR dX11_enoughFor_50 fl_X11_21 rfl (OKs hZ9 rfl) (OKr hZ9 rfl) ?_
          refine ax_aload_n (i := 0) dX11_enoughFor_53 rfl rfl ?_
          refine ax_getR dX11_enoughFor_54 fl_X11_14 rfl (OKs hZ9 rfl) (OKr hZ9 rfl) ?_
          refine ax_cVq0 dX11_enoughFor_57 lk_X11_162 (k_go hZ9 (trP_vC t9 hv ho.1 (Or.inl rfl)) ho) rfl (OKs hZ9 rfl) ⟨_, rfl, rfl⟩ rfl (Nat.le_of_ble_eq_true rfl) (Nat.le_of_ble_eq_true rfl) (Nat.le_of_ble_eq_true rfl) (Nat.le_of_ble_eq_true rfl) ?_
          rintro Z1 G1 _ ⟨rfl, t'1, v1⟩
          have t1 := trP_trans t9 t'1
          refine ax_aload_n (i := 0) dX11_enoughFor_60 rfl rfl ?_
          refine ax_getR dX11_enoughFor_61 fl_X11_21 rfl (OKs (trP_OK t1 hZ) rfl) (OKr (trP_OK t1 hZ) rfl) ?_
          refine ax_iload dX11_enoughFor_64 rfl ?_
          refine ax_cVq0 dX11_enoughFor_66 lk_X11_188 (k_all (trP_OK t1 hZ) v1 ho (nI q)) rfl (OKs (trP_OK t1 hZ) rfl) ⟨_, rfl, rfl⟩ rfl (Nat.le_of_ble_eq_true rfl) (Nat.le_of_ble_eq_true rfl) (Nat.le_of_ble_eq_true rfl) (Nat.le_of_ble_eq_true rfl) ?_
          rintro Z2 G2 _ ⟨rfl, t'2, v2⟩
          have t2 := trP_trans t1 t'2
          refine ax_aload_n (i := 0) dX11_enoughFor_69 rfl rfl ?_
          refine ax_getR dX11_enoughFor_70 fl_X11_21 rfl (OKs (trP_OK t2 hZ) rfl) (OKr (trP_OK t2 hZ) rfl) ?_
          refine ax_getR dX11_enoughFor_73 fl_X11_101 rfl (OKs (trP_OK t2 hZ) rfl) (OKr (trP_OK t2 hZ) rfl) ?_
          refine ax_iload_n (i := 1) dX11_enoughFor_76 rfl rfl ?_
          refine ax_ialdN u dX11_enoughFor_77 (OKs (trP_OK t2 hZ) rfl) rfl hu (by decide) ?_
          refine ax_if_ne (tgt := 88) dX11_enoughFor_78 (by decide) (fun c_78 => ?_) (fun c_78 => ?_)
          · refine ax_iinc (v := (nI q) + 1) dX11_enoughFor_88 rfl rfl (by decide) rfl ?_
            refine ax_goto (tgt := 19) dX11_enoughFor_91 (by decide) ?_
            refine ax_lv [(0, .ref 0), (1, .int (nI u)), (2, .int (inB (fun p => W.C p 5) 0 W.m)), (3, .int (enV W u (q + 1)).1), (4, .int (enV W u (q + 1)).2), (5, .int (nI (q + 1)))] ⟨rfl, rfl, rfl, sI (by rw [enV]; rw [if_neg (fun z => c_78 ((v2.2.2.2.1 u hu).trans z.2.2))]), sI (by rw [enV]; rw [if_neg (fun z => c_78 ((v2.2.2.2.1 u hu).trans z.2.2))]), sI (nI_1 q), trivial⟩ ?_
            exact ih (q + 1) (by omega) (by omega) _ _ t2
          · refine ax_iload dX11_enoughFor_81 rfl ?_
            refine ax_istore_n (i := 3) dX11_enoughFor_83 rfl (by decide) rfl ?_
            refine ax_iload dX11_enoughFor_84 rfl ?_
            refine ax_istore dX11_enoughFor_86 (by decide) rfl ?_
            refine ax_iinc (v := (nI q) + 1) dX11_enoughFor_88 rfl rfl (by decide) rfl ?_
            refine ax_goto (tgt := 19) dX11_enoughFor_91 (by decide) ?_
            refine ax_lv [(0, .ref 0), (1, .int (nI u)), (2, .int (inB (fun p => W.C p 5) 0 W.m)), (3, .int (enV W u (q + 1)).1), (4, .int (enV W u (q + 1)).2), (5, .int (nI (q + 1)))] ⟨rfl, rfl, rfl, sI (by rw [enV]; rw [if_pos ⟨c_39, c_46, (v2.2.2.2.1 u hu).symm.trans c_78⟩]), sI (by rw [enV]; rw [if_pos ⟨c_39, c_46, (v2.2.2.2.1 u hu).symm.trans c_78⟩]), sI (nI_1 q), trivial⟩ ?_
            exact ih (q + 1) (by omega) (by omega) _ _ t2
theorem c_enoughFor {Z : Zt} {G : Gt} {L : Lt} {W : Wv} (hZ : OK Z) (hv : vC Z G 24 W) (ho : okW W) (u : Nat) (hu : u < 4) : AC mX11_enoughFor 7 0 0 [.ref 0, .int (nI u)] Z G L (RP (.int (enV W u 64).1) (TP Z G L)) := by
  refine AC.intro (by decide +kernel) (Nat.le_of_ble_eq_true rfl) ?_
  refine ax_lv [(0, .ref 0), (1, .int (nI u))] ⟨rfl, rfl, trivial⟩ ?_
  refine ax_aload_n (i := 0) dX11_enoughFor_0 rfl rfl ?_
  refine ax_getR dX11_enoughFor_1 fl_X11_14 rfl (OKs hZ rfl) (OKr hZ rfl) ?_
  refine ax_iconst (v := 0) dX11_enoughFor_4 (by decide) ?_
  refine ax_cVv dX11_enoughFor_5 lk_X11_155 (k_in (isW24 hZ) (trP_vC (trP_refl (Z := Z) (G := G)) hv ho.1 (Or.inl rfl)) ho 0) rfl (OKs hZ rfl) ⟨_, rfl, rfl⟩ rfl (Nat.le_of_ble_eq_true rfl) (Nat.le_of_ble_eq_true rfl) (Nat.le_of_ble_eq_true rfl) (Nat.le_of_ble_eq_true rfl) ?_
  refine ax_istore_n (i := 2) dX11_enoughFor_8 rfl (by decide) rfl ?_
  refine ax_bipush (v := (-5)) dX11_enoughFor_9 (by decide) ?_
  refine ax_istore_n (i := 3) dX11_enoughFor_11 rfl (by decide) rfl ?_
  refine ax_bipush (v := 7) dX11_enoughFor_12 (by decide) ?_
  refine ax_istore dX11_enoughFor_14 (by decide) rfl ?_
  refine ax_iconst (v := 0) dX11_enoughFor_16 (by decide) ?_
  refine ax_istore dX11_enoughFor_17 (by decide) rfl ?_
  refine ax_lv [(0, .ref 0), (1, .int (nI u)), (2, .int (inB (fun p => W.C p 5) 0 W.m)), (3, .int (enV W u 0).1), (4, .int (enV W u 0).2), (5, .int (nI 0))] ⟨rfl, rfl, rfl, rfl, rfl, rfl, trivial⟩ ?_
  refine l_enoughFor hZ hv ho u hu ?_ 65 0 (by omega) (by omega) _ _ (trP_refl (Z := Z) (G := G))
  intro Z9 G9 t9
  refine ax_iload_n (i := 3) dX11_enoughFor_94 rfl rfl ?_
  refine ax_iret dX11_enoughFor_95 rfl rfl (Nat.le_of_ble_eq_true rfl) (Nat.le_of_ble_eq_true rfl) ?_
  exact ⟨rfl, rfl, t9⟩
theorem l_giftTo {Z0 : Zt} {G0 : Gt} {L : Lt} {Q : Qt} {W : Wv} (hZ : OK Z0) (hv : vC Z0 G0 24 W) (ho : okW W) (p : Nat) (hp : p < W.m) (hend : ∀ Z G, trP Z0 G0 Z G → AX none mX11_giftTo 7 0 0 0 0 80 [(2, .int (giV W p 4).1)] [] Z G L Q) : ∀ (n q : Nat), q ≤ 4 → 4 - q < n → ∀ Z G, trP Z0 G0 Z G → AX none mX11_giftTo 7 0 0 0 0 8 [(0, .ref 0), (1, .int (nI p)), (2, .int (giV W p q).1), (3, .int (giV W p q).2), (4, .int (nI q))] [] Z G L Q := by
  intro n
  induction n with
  | zero => intro q h1 h2; omega
  | succ n ih =>
    intro q h1 h2 Z G t9 
    have hZ9 := trP_OK t9 hZ
    refine ax_iload dX11_giftTo_8 rfl ?_
    refine ax_iconst (v := 4) dX11_giftTo_10 (by decide) ?_
    refine ax_icmp_ge (tgt := 80) dX11_giftTo_11 (by decide) (fun c_11 => ?_) (fun c_11 => ?_)
    · obtain rfl : q = 4 := by have := (nI_leI (by omega) (by omega)).mp (show nI 4 ≤ nI q from c_11); omega
      exact ax_lv [(2, .int (giV W p 4).1)] ⟨rfl, trivial⟩ (hend _ _ t9)
    · have hqm : q < 4 := by have := mt (nI_leI (by omega) (by omega)).mpr (show ¬ nI 4 ≤ nI q from c_11); omega
      refine ax_aload_n (i := 0) dX11_giftTo_14 rfl rfl ?_
      refine ax_getR dX11_giftTo_15 fl_X11_21 rfl (OKs hZ9 rfl) (OKr hZ9 rfl) ?_
      refine ax_aload_n (i := 0) dX11_giftTo_18 rfl rfl ?_
      refine ax_getR dX11_giftTo_19 fl_X11_14 rfl (OKs hZ9 rfl) (OKr hZ9 rfl) ?_
      refine ax_cVq0 dX11_giftTo_22 lk_X11_162 (k_go hZ9 (trP_vC t9 hv ho.1 (Or.inl rfl)) ho) rfl (OKs hZ9 rfl) ⟨_, rfl, rfl⟩ rfl (Nat.le_of_ble_eq_true rfl) (Nat.le_of_ble_eq_true rfl) (Nat.le_of_ble_eq_true rfl) (Nat.le_of_ble_eq_true rfl) ?_
      rintro Z1 G1 _ ⟨rfl, t'1, v1⟩
      have t1 := trP_trans t9 t'1
      refine ax_aload_n (i := 0) dX11_giftTo_25 rfl rfl ?_
      refine ax_getR dX11_giftTo_26 fl_X11_21 rfl (OKs (trP_OK t1 hZ) rfl) (OKr (trP_OK t1 hZ) rfl) ?_
      refine ax_getR dX11_giftTo_29 fl_X11_87 rfl (OKs (trP_OK t1 hZ) rfl) (OKr (trP_OK t1 hZ) rfl) ?_
      refine ax_iload_n (i := 1) dX11_giftTo_32 rfl rfl ?_
      refine ax_aaldN p (t0 := 5) dX11_giftTo_33 (OKs (trP_OK t1 hZ) rfl) rfl (fun _ => rfl) rfl (show p < 6 by have := ho.1; omega) (by decide) (Wrf (isW58 (trP_OK t1 hZ)) (show p < 6 by have := ho.1; omega)) ?_
      refine ax_iconst (v := 3) dX11_giftTo_34 (by decide) ?_
      refine ax_iload dX11_giftTo_35 rfl ?_
      refine ax_iastN 3 dX11_giftTo_37 (Wrow (isW58 (trP_OK t1 hZ)) (show p < 6 by have := ho.1; omega)) rfl (by decide) (by decide) ?_
      have v1s := vC_set (p := p) (c := 3) (x := (nI q)) v1 ho (by decide) hp
      have t1s := trP_set (c := 3) (x := (nI q)) t1 (show 58 ≤ 58 + 2 + p ∧ 58 + 2 + p < 75 by have := ho.1; omega)
      have o1s := setV_ok (p := p) (c := 3) (x := (nI q)) ho (fun h => absurd h (by decide)) (fun _ => ⟨q, hqm, rfl⟩)
      refine ax_aload_n (i := 0) dX11_giftTo_38 rfl rfl ?_
      refine ax_getR dX11_giftTo_39 fl_X11_21 rfl (OKs (trP_OK t1s hZ) rfl) (OKr (trP_OK t1s hZ) rfl) ?_
      refine ax_aload_n (i := 0) dX11_giftTo_42 rfl rfl ?_
      refine ax_getR dX11_giftTo_43 fl_X11_14 rfl (OKs (trP_OK t1s hZ) rfl) (OKr (trP_OK t1s hZ) rfl) ?_
      refine ax_iconst (v := 0) dX11_giftTo_46 (by decide) ?_
      refine ax_cVv dX11_giftTo_47 lk_X11_155 (k_in (isW24 (trP_OK t1s hZ)) (trP_vC t1s hv ho.1 (Or.inl rfl)) ho 0) rfl (OKs (trP_OK t1s hZ) rfl) ⟨_, rfl, rfl⟩ rfl (Nat.le_of_ble_eq_true rfl) (Nat.le_of_ble_eq_true rfl) (Nat.le_of_ble_eq_true rfl) (Nat.le_of_ble_eq_true rfl) ?_
      refine ax_cVq0 dX11_giftTo_50 lk_X11_188 (k_all (trP_OK t1s hZ) v1s o1s (inB (fun p => W.C p 5) 0 W.m)) rfl (OKs (trP_OK t1s hZ) rfl) ⟨_, rfl, rfl⟩ rfl (Nat.le_of_ble_eq_true rfl) (Nat.le_of_ble_eq_true rfl) (Nat.le_of_ble_eq_true rfl) (Nat.le_of_ble_eq_true rfl) ?_
      rintro Z2 G2 _ ⟨rfl, t'2, v2⟩
      have t2 := trP_trans t1s t'2
      refine ax_aload_n (i := 0) dX11_giftTo_53 rfl rfl ?_
      refine ax_getR dX11_giftTo_54 fl_X11_21 rfl (OKs (trP_OK t2 hZ) rfl) (OKr (trP_OK t2 hZ) rfl) ?_
      have oo := litA_ok (s := inB (fun p => W.C p 5) 0 W.m) o1s W.m (Nat.le_refl _)
      refine ax_cVv dX11_giftTo_57 lk_X11_185 (k_score (isW58 (trP_OK t2 hZ)) v2) rfl (OKs (trP_OK t2 hZ) rfl) ⟨_, rfl, rfl⟩ rfl (Nat.le_of_ble_eq_true rfl) (Nat.le_of_ble_eq_true rfl) (Nat.le_of_ble_eq_true rfl) (Nat.le_of_ble_eq_true rfl) ?_
      refine ax_istore dX11_giftTo_60 (by decide) rfl ?_
      refine ax_iload dX11_giftTo_62 rfl ?_
      refine ax_iload_n (i := 3) dX11_giftTo_64 rfl rfl ?_
      refine ax_icmp_le (tgt := 74) dX11_giftTo_65 (by decide) (fun c_65 => ?_) (fun c_65 => ?_)
      · refine ax_iinc (v := (nI q) + 1) dX11_giftTo_74 rfl rfl (by decide) rfl ?_
        refine ax_goto (tgt := 8) dX11_giftTo_77 (by decide) ?_
        refine ax_lv [(0, .ref 0), (1, .int (nI p)), (2, .int (giV W p (q + 1)).1), (3, .int (giV W p (q + 1)).2), (4, .int (nI (q + 1)))] ⟨rfl, rfl, sI (by rw [giV]; first | rw [if_pos (show scoreV (giW W p q) ≤ _ from c_65)] | rw [if_neg (show ¬ scoreV (giW W p q) ≤ _ from c_65)]), sI (by rw [giV]; first | rw [if_pos (show scoreV (giW W p q) ≤ _ from c_65)] | (rw [if_neg (show ¬ scoreV (giW W p q) ≤ _ from c_65)]; rfl)), sI (nI_1 q), trivial⟩ ?_
        exact ih (q + 1) (by omega) (by omega) _ _ t2
      · refine ax_iload dX11_giftTo_68 rfl ?_
        refine ax_istore_n (i := 3) dX11_giftTo_70 rfl (by decide) rfl ?_
        refine ax_iload dX11_giftTo_71 rfl ?_
        refine ax_istore_n (i := 2) dX11_giftTo_73 rfl (by decide) rfl ?_
        refine ax_iinc (v := (nI q) + 1) dX11_giftTo_74 rfl rfl (by decide) rfl ?_
        refine ax_goto (tgt := 8) dX11_giftTo_77 (by decide) ?_
        refine ax_lv [(0, .ref 0), (1, .int (nI p)), (2, .int (giV W p (q + 1)).1), (3, .int (giV W p (q + 1)).2), (4, .int (nI (q + 1)))] ⟨rfl, rfl, sI (by rw [giV]; first | rw [if_pos (show scoreV (giW W p q) ≤ _ from c_65)] | rw [if_neg (show ¬ scoreV (giW W p q) ≤ _ from c_65)]), sI (by rw [giV]; first | rw [if_pos (show scoreV (giW W p q) ≤ _ from c_65)] | (rw [if_neg (show ¬ scoreV (giW W p q) ≤ _ from c_65)]; rfl)), sI (nI_1 q), trivial⟩ ?_
        exact ih (q + 1) (by omega) (by omega) _ _ t2
theorem c_giftTo {Z : Zt} {G : Gt} {L : Lt} {W : Wv} (hZ : OK Z) (hv : vC Z G 24 W) (ho : okW W) (p : Nat) (hp : p < W.m) : AC mX11_giftTo 7 0 0 [.ref 0, .int (nI p)] Z G L (RP (.int (giV W p 4).1) (TP Z G L)) := by
  refine AC.intro (by decide +kernel) (Nat.le_of_ble_eq_true rfl) ?_
  refine ax_lv [(0, .ref 0), (1, .int (nI p))] ⟨rfl, rfl, trivial⟩ ?_
  refine ax_iconst (v := 0) dX11_giftTo_0 (by decide) ?_
  refine ax_istore_n (i := 2) dX11_giftTo_1 rfl (by decide) rfl ?_
  refine ax_ldc dX11_giftTo_2 wk_X11_181 ?_
  refine ax_istore_n (i := 3) dX11_giftTo_4 rfl (by decide) rfl ?_
  refine ax_iconst (v := 0) dX11_giftTo_5 (by decide) ?_
  refine ax_istore dX11_giftTo_6 (by decide) rfl ?_
  refine ax_lv [(0, .ref 0), (1, .int (nI p)), (2, .int (giV W p 0).1), (3, .int (giV W p 0).2), (4, .int (nI 0))] ⟨rfl, rfl, rfl, rfl, rfl, trivial⟩ ?_
  refine l_giftTo hZ hv ho p hp ?_ 5 0 (by omega) (by omega) _ _ (trP_refl (Z := Z) (G := G))
  intro Z9 G9 t9
  refine ax_iload_n (i := 2) dX11_giftTo_80 rfl rfl ?_
  refine ax_iret dX11_giftTo_81 rfl rfl (Nat.le_of_ble_eq_true rfl) (Nat.le_of_ble_eq_true rfl) ?_
  exact ⟨rfl, rfl, t9⟩
theorem c_isMarkSo {Z : Zt} {G : Gt} {L : Lt} {W : Wv} (hZ : OK Z) (hv : vC Z G 24 W) (ho : okW W) {H : Hv} (hH : hC G 24 H) (hh : okH W.m H) (hm : W.mm + 20 < 20000) (k c : Nat) (x : Int32) (hk : k < H.nk) (hc : c = 1 ∨ c = 2) : AC mX11_isMarkSo 5 0 0 [.ref 0, .int (nI k), .int (nI c), .int x] Z G L (RP (.int (bi (msV W H k c x))) (TP Z G L)) := by
  refine AC.intro (by decide +kernel) (Nat.le_of_ble_eq_true rfl) ?_
  refine ax_lv [(0, .ref 0), (1, .int (nI k)), (2, .int (nI c)), (3, .int x)] ⟨rfl, rfl, rfl, rfl, trivial⟩ ?_
  have hk5 : k < 5 := by have := hh.1; omega
  have hp := (hh.2.1 k hk).1
  have hn12 := (hh.2.1 k hk).2
  have hp6 : H.k0 k < 6 := by have := ho.1; omega
  refine ax_aload_n (i := 0) dX11_isMarkSo_0 rfl rfl ?_
  refine ax_getR dX11_isMarkSo_1 fl_X11_14 rfl (OKs hZ rfl) (OKr hZ rfl) ?_
  refine ax_getR dX11_isMarkSo_4 fl_X11_194 rfl (OKs hZ rfl) (OKr hZ rfl) ?_
  refine ax_iload_n (i := 1) dX11_isMarkSo_7 rfl rfl ?_
  refine ax_ialdN k dX11_isMarkSo_8 (OKs hZ rfl) rfl hk5 (by decide) ?_
  refine ax_top (congrArg Value.int (hH.1.2 k hk).1) ?_
  refine ax_istore dX11_isMarkSo_9 (by decide) rfl ?_
  refine ax_aload_n (i := 0) dX11_isMarkSo_11 rfl rfl ?_
  refine ax_getR dX11_isMarkSo_12 fl_X11_21 rfl (OKs hZ rfl) (OKr hZ rfl) ?_
  refine ax_aload_n (i := 0) dX11_isMarkSo_15 rfl rfl ?_
  refine ax_getR dX11_isMarkSo_16 fl_X11_14 rfl (OKs hZ rfl) (OKr hZ rfl) ?_
  refine ax_cVq0 dX11_isMarkSo_19 lk_X11_162 (k_go hZ (trP_vC (trP_refl (Z := Z) (G := G)) hv ho.1 (Or.inl rfl)) ho) rfl (OKs hZ rfl) ⟨_, rfl, rfl⟩ rfl (Nat.le_of_ble_eq_true rfl) (Nat.le_of_ble_eq_true rfl) (Nat.le_of_ble_eq_true rfl) (Nat.le_of_ble_eq_true rfl) ?_
  rintro Z1 G1 _ ⟨rfl, t'1, v1⟩
  have t1 := trP_trans (trP_refl (Z := Z) (G := G)) t'1
  refine ax_aload_n (i := 0) dX11_isMarkSo_22 rfl rfl ?_
  refine ax_getR dX11_isMarkSo_23 fl_X11_21 rfl (OKs (trP_OK t1 hZ) rfl) (OKr (trP_OK t1 hZ) rfl) ?_
  refine ax_getR dX11_isMarkSo_26 fl_X11_87 rfl (OKs (trP_OK t1 hZ) rfl) (OKr (trP_OK t1 hZ) rfl) ?_
  refine ax_iload dX11_isMarkSo_29 rfl ?_
  refine ax_aaldN (H.k0 k) (t0 := 5) dX11_isMarkSo_31 (OKs (trP_OK t1 hZ) rfl) rfl (fun _ => rfl) rfl hp6 (by decide) (Wrf (isW58 (trP_OK t1 hZ)) hp6) ?_
  refine ax_iload_n (i := 2) dX11_isMarkSo_32 rfl rfl ?_
  refine ax_iload_n (i := 3) dX11_isMarkSo_33 rfl rfl ?_
  refine ax_iastN c dX11_isMarkSo_34 (Wrow (isW58 (trP_OK t1 hZ)) hp6) rfl (by omega) (by decide) ?_
  have v1s := vC_set (p := (H.k0 k)) (c := c) (x := x) v1 ho (by decide) hp
  have t1s := trP_set (c := c) (x := x) t1 (show 58 ≤ 58 + 2 + (H.k0 k) ∧ 58 + 2 + (H.k0 k) < 75 by have := ho.1; omega)
  have o1s := setV_ok (p := (H.k0 k)) (c := c) (x := x) ho (by omega) (by omega)
  refine ax_aload_n (i := 0) dX11_isMarkSo_35 rfl rfl ?_
  refine ax_getR dX11_isMarkSo_36 fl_X11_21 rfl (OKs (trP_OK t1s hZ) rfl) (OKr (trP_OK t1s hZ) rfl) ?_
  refine ax_aload_n (i := 0) dX11_isMarkSo_39 rfl rfl ?_
  refine ax_getR dX11_isMarkSo_40 fl_X11_14 rfl (OKs (trP_OK t1s hZ) rfl) (OKr (trP_OK t1s hZ) rfl) ?_
  refine ax_getR dX11_isMarkSo_43 fl_X11_197 rfl (OKs (trP_OK t1s hZ) rfl) (OKr (trP_OK t1s hZ) rfl) ?_
  refine ax_iload_n (i := 1) dX11_isMarkSo_46 rfl rfl ?_
  refine ax_ialdN k dX11_isMarkSo_47 (OKs (trP_OK t1s hZ) rfl) rfl hk5 (by decide) ?_
  refine ax_top (congrArg Value.int ((trP_hC t1s hH (Or.inl rfl)).1.2 k hk).2.1) ?_
  refine ax_cVq0 dX11_isMarkSo_48 lk_X11_158 (k_min (trP_OK t1s hZ) v1s o1s (H.k1 k) (by omega) (show W.mm + H.k1 k < 20000 by omega)) rfl (OKs (trP_OK t1s hZ) rfl) ⟨_, rfl, rfl⟩ rfl (Nat.le_of_ble_eq_true rfl) (Nat.le_of_ble_eq_true rfl) (Nat.le_of_ble_eq_true rfl) (Nat.le_of_ble_eq_true rfl) ?_
  rintro Z2 G2 _ ⟨rfl, t'2, v2⟩
  have t2 := trP_trans t1s t'2
  refine ax_iconst (v := 0) dX11_isMarkSo_51 (by decide) ?_
  refine ax_aload_n (i := 0) dX11_isMarkSo_52 rfl rfl ?_
  refine ax_getR dX11_isMarkSo_53 fl_X11_21 rfl (OKs (trP_OK t2 hZ) rfl) (OKr (trP_OK t2 hZ) rfl) ?_
  refine ax_iload dX11_isMarkSo_56 rfl ?_
  refine ax_cVv dX11_isMarkSo_58 lk_X11_69 (k_br (trP_OK t2 hZ) (isW58 (trP_OK t2 hZ)) v2 (minVN_ok (H.k1 k) o1s (show W.mm + H.k1 k < 20000 by omega)) (H.k0 k) (by rw [minVN_m]; exact hp)) rfl (OKs (trP_OK t2 hZ) rfl) ⟨_, rfl, rfl⟩ rfl (Nat.le_of_ble_eq_true rfl) (Nat.le_of_ble_eq_true rfl) (Nat.le_of_ble_eq_true rfl) (Nat.le_of_ble_eq_true rfl) ?_
  refine ax_max dX11_isMarkSo_61 lm_X11_219 (by decide) (Nat.le_of_ble_eq_true rfl) (Nat.le_of_ble_eq_true rfl) (Nat.le_of_ble_eq_true rfl) ?_
  refine ax_aload_n (i := 0) dX11_isMarkSo_64 rfl rfl ?_
  refine ax_getR dX11_isMarkSo_65 fl_X11_14 rfl (OKs (trP_OK t2 hZ) rfl) (OKr (trP_OK t2 hZ) rfl) ?_
  refine ax_getR dX11_isMarkSo_68 fl_X11_200 rfl (OKs (trP_OK t2 hZ) rfl) (OKr (trP_OK t2 hZ) rfl) ?_
  refine ax_iload_n (i := 1) dX11_isMarkSo_71 rfl rfl ?_
  refine ax_ialdN k dX11_isMarkSo_72 (OKs (trP_OK t2 hZ) rfl) rfl hk5 (by decide) ?_
  refine ax_top (congrArg Value.int ((trP_hC t2 hH (Or.inl rfl)).1.2 k hk).2.2) ?_
  refine ax_icmp_ne (tgt := 80) dX11_isMarkSo_73 (by decide) (fun c_73 => ?_) (fun c_73 => ?_)
  · refine ax_iconst (v := 0) dX11_isMarkSo_80 (by decide) ?_
    refine ax_iret dX11_isMarkSo_81 rfl rfl (Nat.le_of_ble_eq_true rfl) (Nat.le_of_ble_eq_true rfl) ?_
    exact ⟨congrArg (fun z => some (Value.int z)) (by first | exact (bi_t c_73).symm | exact (bi_f c_73).symm), rfl, t2⟩
  · refine ax_iconst (v := 1) dX11_isMarkSo_76 (by decide) ?_
    refine ax_goto (tgt := 81) dX11_isMarkSo_77 (by decide) ?_
    refine ax_iret dX11_isMarkSo_81 rfl rfl (Nat.le_of_ble_eq_true rfl) (Nat.le_of_ble_eq_true rfl) ?_
    exact ⟨congrArg (fun z => some (Value.int z)) (by first | exact (bi_t c_73).symm | exact (bi_f c_73).symm), rfl, t2⟩
