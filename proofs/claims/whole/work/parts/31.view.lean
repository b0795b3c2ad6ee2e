-- ===== a World as pure values =====
/-- what goes on: m rockets, the minute, cells by rocket and number, griefs, rains, what the show gives, how fast all dries -/
def Wv : Type := Nat × Nat × (Nat → Nat → Int32) × (Nat → Int32) × (Nat → Int32) × (Nat → (Nat → Int32) → Nat → Int32) × Int32
def mkW (m mm : Nat) (C : Nat → Nat → Int32) (gr rn : Nat → Int32) (sb : Nat → (Nat → Int32) → Nat → Int32) (dry : Int32) : Wv := (m, mm, C, gr, rn, sb, dry)
def Wv.m (W : Wv) : Nat := W.1
def Wv.mm (W : Wv) : Nat := W.2.1
def Wv.C (W : Wv) : Nat → Nat → Int32 := W.2.2.1
def Wv.gr (W : Wv) : Nat → Int32 := W.2.2.2.1
def Wv.rn (W : Wv) : Nat → Int32 := W.2.2.2.2.1
def Wv.sb (W : Wv) : Nat → (Nat → Int32) → Nat → Int32 := W.2.2.2.2.2.1
def Wv.dry (W : Wv) : Int32 := W.2.2.2.2.2.2
def lightV (W : Wv) (p : Nat) : Int32 := lightK (W.C p 0) (W.C p 1) (2 * W.C p 2 - W.C p 4 / 10 + W.sb p (W.C p) W.mm) (W.rn (W.mm % 4)) (nI W.mm) (inB (fun p => W.C p 5) 2 W.m) (W.C p (6 + W.mm % 4))
def up1 {α : Type} (g : Nat → α) (q : Nat) (v : α) : Nat → α := fun b => if b = q then v else g b
theorem up1_s {α : Type} {g : Nat → α} {q : Nat} {v : α} : up1 g q v q = v := if_pos rfl
theorem up1_n {α : Type} {g : Nat → α} {q b : Nat} {v : α} (h : b ≠ q) : up1 g q v b = g b := if_neg h
def litV (W : Wv) (p : Nat) : Wv := mkW W.m W.mm (up2 W.C p 5 (if lightV W p ≤ 0 then 1 else 2)) (if lightV W p ≤ 0 then W.gr else up1 W.gr (W.C p 3).toNatClampNeg (mx0 (W.gr (W.C p 3).toNatClampNeg - lightV W p))) W.rn W.sb W.dry
def minV (W : Wv) : Wv := mkW W.m (W.mm + 1) (fun p i => if i = 4 ∧ W.C p 5 = 0 then cl (W.C p 4 + (3 * W.rn (W.mm % 4) - W.dry)) else W.C p i) W.gr W.rn W.sb W.dry
def minVN : Nat → Wv → Wv
  | 0, W => W
  | n + 1, W => minVN n (minV W)
def litA (W : Wv) (some : Int32) : Nat → Wv
  | 0 => W
  | p + 1 => if (some >>> (nI p &&& 31)) &&& 1 = 0 then litA W some p else litV (litA W some p) p
def okW (W : Wv) : Prop := W.m ≤ 6 ∧ W.mm < 20000 ∧ (∀ p, p < W.m → ∃ k, k < 7 ∧ W.C p 0 = nI k) ∧ (∀ p, p < W.m → ∃ q, q < 4 ∧ W.C p 3 = nI q) ∧ (∀ q, q < 4 → ∃ g, g ≤ 999 ∧ W.gr q = nI g)
/-- World w shows W -/
def vC (Z : Zt) (G : Gt) (w : Nat) (W : Wv) : Prop := G w 11 = nI W.m ∧ G w 15 = nI W.mm ∧ (∀ p, p < W.m → ∀ i, i < 10 → G (w + 2 + p) i = W.C p i) ∧ (∀ q, q < 4 → G (w + 8) q = W.gr q) ∧ (∀ q, q < 4 → G (w + 9) q = W.rn q) ∧ shOK Z G (Z.2.2 w 16) ∧ dryO Z G (Z.2.2 w 16) = W.dry ∧ (∀ p row mi, sbO Z G (Z.2.2 w 16) (nI p) row (nI mi) = W.sb p row mi)
theorem opF_row {l num mi : Int32} {r r' : Nat → Int32} (h : ∀ i, i < 10 → r i = r' i) : opF l num r mi = opF l num r' mi := by
  unfold opF
  rw [h 0 (by decide), h 1 (by decide), h 2 (by decide), h 4 (by decide)]
theorem brR_row {S : Nat → Int32} {num mi : Int32} {r r' : Nat → Int32} (h : ∀ i, i < 10 → r i = r' i) : ∀ n, brR S num r mi n = brR S num r' mi n
  | 0 => rfl
  | n + 1 => by
    unfold brR
    rw [brR_row h n]
    unfold bstep
    rw [opF_row h]
theorem sbO_row {Z : Zt} {G : Gt} {o : Option Nat} {num mi : Int32} {r r' : Nat → Int32} (hs : shOK Z G o) (h : ∀ i, i < 10 → r i = r' i) : sbO Z G o num r mi = sbO Z G o num r' mi := by
  cases o with
  | none => rfl
  | some k =>
    obtain ⟨h1, h2, sp, m, h3, h4, h5, h6, h7⟩ := hs k rfl
    rw [sbO_s h4 h5, sbO_s h4 h5, brR_row h]
theorem inB_congr {f g : Nat → Int32} {so : Int32} : ∀ (n : Nat), (∀ p, p < n → f p = g p) → inB f so n = inB g so n
  | 0, _ => rfl
  | n + 1, h => by
    unfold inB
    rw [inB_congr n (fun p hp => h p (by omega)), h n (by omega)]
theorem evenB_congr {f g : Nat → Int32} : ∀ (n : Nat), (∀ p, p < n → f p = g p) → evenB f n = evenB g n
  | 0, _ => rfl
  | n + 1, h => by
    unfold evenB
    rw [evenB_congr n (fun p hp => h p (by omega)), h n (by omega)]
theorem sumB_congr {f g : Nat → Int32} : ∀ (n : Nat), (∀ p, p < n → f p = g p) → sumB f n = sumB g n
  | 0, _ => rfl
  | n + 1, h => by
    unfold sumB
    rw [sumB_congr n (fun p hp => h p (by omega)), h n (by omega)]
theorem vC_wOK {Z : Zt} {G : Gt} {w : Nat} {W : Wv} (h : vC Z G w W) (ho : okW W) : wOK Z G w W.m W.mm := by
  obtain ⟨a1, a2, a3, a4, a5, a6, a7, a8⟩ := h
  obtain ⟨b1, b2, b3, b4, b5⟩ := ho
  exact ⟨b1, a1, by omega, a2, a6, fun p hp => by rw [a3 p hp 0 (by decide)]; exact b3 p hp, fun p hp => by rw [a3 p hp 3 (by decide)]; exact b4 p hp⟩
theorem vC_light {Z : Zt} {G : Gt} {w : Nat} {W : Wv} (h : vC Z G w W) {p : Nat} (hp : p < W.m) : lightW Z G w W.m W.mm p = lightV W p := by
  obtain ⟨a1, a2, a3, a4, a5, a6, a7, a8⟩ := h
  unfold lightW lightV
  have hr : ∀ i, i < 10 → G (w + 2 + p) i = W.C p i := a3 p hp
  rw [sbO_row a6 hr, a2, a8, hr 0 (by decide), hr 1 (by decide), hr 2 (by decide), hr 4 (by decide), hr (6 + W.mm % 4) (by omega), a5 (W.mm % 4) (by omega), inB_congr W.m (fun p hp => a3 p hp 5 (by decide))]
theorem sbO_keep {Z Z' : Zt} {G G' : Gt} {o : Option Nat} (hs : shOK Z G o) (h1 : ∀ k x, Z.2.1 k = some x → Z'.2.1 k = some x) (h2 : ∀ k i j, 108 ≤ k → Z.2.2 k i = some j → Z'.2.2 k i = some j) (h3 : ∀ a x, 108 ≤ a → Z.2.1 a = some x → G' a = G a) : shOK Z' G' o ∧ dryO Z' G' o = dryO Z G o ∧ ∀ num row mi, sbO Z' G' o num row mi = sbO Z G o num row mi := by
  cases o with
  | none => exact ⟨fun k hk => absurd hk (by simp), rfl, fun _ _ _ => rfl⟩
  | some k =>
    obtain ⟨b1, b2, sp, m, b3, b4, b5, b6, b7⟩ := hs k rfl
    refine ⟨fun k' hk' => ?_, ?_, fun num row mi => ?_⟩
    · obtain rfl : k = k' := Option.some.inj hk'
      exact ⟨b1, h1 _ _ b2, sp, m, b3, h2 _ _ _ b1 b4, h1 _ _ b5, b6, by rw [h3 sp _ b3 b5]; exact b7⟩
    · show G' k 1 = G k 1
      rw [h3 k _ b1 b2]
    · rw [sbO_s b4 b5, sbO_s (h2 _ _ _ b1 b4) (h1 _ _ b5), h3 sp _ b3 b5]
theorem vC_keep {Z Z' : Zt} {G G' : Gt} {w : Nat} {W : Wv} (h : vC Z G w W) (ho : W.m ≤ 6) (hG : ∀ a, w ≤ a → a < w + 10 → G' a = G a) (hr : Z'.2.2 w 16 = Z.2.2 w 16) (h1 : ∀ k x, Z.2.1 k = some x → Z'.2.1 k = some x) (h2 : ∀ k i j, 108 ≤ k → Z.2.2 k i = some j → Z'.2.2 k i = some j) (h3 : ∀ a x, 108 ≤ a → Z.2.1 a = some x → G' a = G a) : vC Z' G' w W := by
  obtain ⟨a1, a2, a3, a4, a5, a6, a7, a8⟩ := h
  obtain ⟨c1, c2, c3⟩ := sbO_keep a6 h1 h2 h3
  refine ⟨by rw [hG w (by omega) (by omega)]; exact a1, by rw [hG w (by omega) (by omega)]; exact a2, fun p hp i hi => by rw [hG (w + 2 + p) (by omega) (by omega)]; exact a3 p hp i hi, fun q hq => by rw [hG (w + 8) (by omega) (by omega)]; exact a4 q hq, fun q hq => by rw [hG (w + 9) (by omega) (by omega)]; exact a5 q hq, ?_, ?_, fun p row mi => ?_⟩
  · rw [hr]; exact c1
  · rw [hr, c2]; exact a7
  · rw [hr, c3]; exact a8 p row mi
/-- the places of one World change, none of a show -/
theorem vC_step {Z : Zt} {G G' : Gt} {w : Nat} {W W' : Wv} (h : vC Z G w W) (hs : ∀ a, 108 ≤ a → G' a = G a) (e1 : G' w 11 = nI W'.m) (e2 : G' w 15 = nI W'.mm) (e3 : ∀ p, p < W'.m → ∀ i, i < 10 → G' (w + 2 + p) i = W'.C p i) (e4 : ∀ q, q < 4 → G' (w + 8) q = W'.gr q) (e5 : ∀ q, q < 4 → G' (w + 9) q = W'.rn q) (e6 : W'.sb = W.sb) (e7 : W'.dry = W.dry) : vC Z G' w W' := by
  obtain ⟨a1, a2, a3, a4, a5, a6, a7, a8⟩ := h
  obtain ⟨c1, c2, c3⟩ := sbO_keep (Z' := Z) (G' := G') a6 (fun _ _ h => h) (fun _ _ _ _ h => h) (fun a _ ha _ => hs a ha)
  exact ⟨e1, e2, e3, e4, e5, c1, by rw [c2, e7]; exact a7, fun p row mi => by rw [c3, e6]; exact a8 p row mi⟩
theorem vC_min1 {Z : Zt} {G : Gt} {w : Nat} {W : Wv} (h : vC Z G w W) (ho : W.m ≤ 6) (hw : w < 100) : vC Z (min1 Z w W.m W.mm G) w (minV W) := by
  obtain ⟨a1, a2, a3, a4, a5, a6, a7, a8⟩ := id h
  refine vC_step h (fun a ha => ?_) ?_ ?_ (fun p hp i hi => ?_) (fun q hq => ?_) (fun q hq => ?_) rfl rfl <;> unfold min1
  · rw [up2_row (by omega), gdW_o (by omega)]
  · rw [up2_i (by decide), gdW_n (by decide)]; exact a1
  · rw [up2_s, a2]; exact nI_1 W.mm
  · have hp : p < W.m := hp
    rw [up2_k (by omega), a7, a5 (W.mm % 4) (by omega)]
    unfold gdW minV
    show _ = if i = 4 ∧ W.C p 5 = 0 then _ else _
    by_cases c : i = 4 ∧ W.C p 5 = 0
    · rw [if_pos ⟨by omega, c.1, by rw [a3 p hp 5 (by decide)]; exact c.2⟩, if_pos c, a3 p hp 4 (by decide)]
    · rw [if_neg (fun z => c ⟨z.2.1, by rw [← a3 p hp 5 (by decide)]; exact z.2.2⟩), if_neg c, a3 p hp i hi]
  · rw [up2_k (by omega), gdW_o (by omega)]; exact a4 q hq
  · rw [up2_k (by omega), gdW_o (by omega)]; exact a5 q hq
theorem vC_minN {Z : Zt} {w : Nat} (hw : w < 100) : ∀ (n : Nat) {G : Gt} {W : Wv}, vC Z G w W → W.m ≤ 6 → vC Z (minN Z w W.m n W.mm G) w (minVN n W)
  | 0, _, _, h, _ => h
  | n + 1, G, W, h, ho => vC_minN hw n (W := minV W) (vC_min1 h ho hw) ho
theorem minV_C {W : Wv} {p i : Nat} (h : ¬ i = 4) : (minV W).C p i = W.C p i := if_neg (fun z => h z.1)
theorem minV_ok {W : Wv} (h : okW W) (hm : W.mm + 1 < 20000) : okW (minV W) := by
  obtain ⟨b1, b2, b3, b4, b5⟩ := h
  refine ⟨b1, hm, fun p hp => ?_, fun p hp => ?_, b5⟩
  · obtain ⟨k, h1, h2⟩ := b3 p hp
    exact ⟨k, h1, by rw [minV_C (by decide)]; exact h2⟩
  · obtain ⟨k, h1, h2⟩ := b4 p hp
    exact ⟨k, h1, by rw [minV_C (by decide)]; exact h2⟩
theorem minVN_ok : ∀ (n : Nat) {W : Wv}, okW W → W.mm + n < 20000 → okW (minVN n W)
  | 0, _, h, _ => h
  | n + 1, W, h, hm => minVN_ok n (W := minV W) (minV_ok h (by omega)) (by show W.mm + 1 + n < 20000; omega)
theorem minVN_m : ∀ (n : Nat) (W : Wv), (minVN n W).m = W.m
  | 0, _ => rfl
  | n + 1, W => minVN_m n (minV W)
theorem minVN_mm : ∀ (n : Nat) (W : Wv), (minVN n W).mm = W.mm + n
  | 0, _ => rfl
  | n + 1, W => by show (minVN n (minV W)).mm = _; rw [minVN_mm n (minV W)]; show W.mm + 1 + n = _; omega
theorem mx0_r {a l : Int32} {g : Nat} (hg : g ≤ 999) (ha : a = nI g) (hl : ¬ l ≤ 0) : ∃ g', g' ≤ 999 ∧ mx0 (a - l) = nI g' := by
  subst ha
  have hl2 : (0 : Int) < l.toInt := by
    have := mt Int32.le_iff_toInt_le.mpr hl
    simp at this
    exact this
  unfold mx0
  by_cases c : 0 < nI g - l
  · rw [if_pos c]
    have hc := Int32.lt_iff_toInt_lt.mp c
    rw [Int32.toInt_sub, nI_toInt (by omega)] at hc
    have hb : ((g : Int) - l.toInt).bmod (2 ^ 32) = (g : Int) - l.toInt := by
      have := Int32.toInt_lt l
      rw [Int.bmod_def]
      omega
    rw [hb] at hc
    have hc : (0 : Int) < g - l.toInt := by simpa using hc
    refine ⟨((g : Int) - l.toInt).toNat, by omega, ?_⟩
    apply Int32.toInt_inj.mp
    rw [Int32.toInt_sub, nI_toInt (by omega), hb, nI_toInt (by omega)]
    omega
  · rw [if_neg c]
    exact ⟨0, by omega, rfl⟩
theorem okw3 {W : Wv} (h : okW W) {p : Nat} (hp : p < W.m) : W.C p 3 = nI (W.C p 3).toNatClampNeg ∧ (W.C p 3).toNatClampNeg < 4 := by
  obtain ⟨q, h1, h2⟩ := h.2.2.2.1 p hp
  rw [h2, nI_clamp (by omega)]
  exact ⟨rfl, h1⟩
theorem litV_ok {W : Wv} (h : okW W) {p : Nat} (hp : p < W.m) : okW (litV W p) := by
  obtain ⟨b1, b2, b3, b4, b5⟩ := id h
  refine ⟨b1, b2, fun a ha => ?_, fun a ha => ?_, fun q hq => ?_⟩
  · obtain ⟨k, h1, h2⟩ := b3 a ha
    exact ⟨k, h1, by unfold litV; show up2 W.C p 5 _ a 0 = _; rw [up2_i (by decide)]; exact h2⟩
  · obtain ⟨k, h1, h2⟩ := b4 a ha
    exact ⟨k, h1, by unfold litV; show up2 W.C p 5 _ a 3 = _; rw [up2_i (by decide)]; exact h2⟩
  · unfold litV
    show ∃ g, g ≤ 999 ∧ (if lightV W p ≤ 0 then W.gr else up1 W.gr (W.C p 3).toNatClampNeg (mx0 (W.gr (W.C p 3).toNatClampNeg - lightV W p))) q = nI g
    by_cases c : lightV W p ≤ 0
    · rw [if_pos c]; exact b5 q hq
    · rw [if_neg c]
      by_cases e : q = (W.C p 3).toNatClampNeg
      · rw [e, up1_s]
        obtain ⟨g, h1, h2⟩ := b5 _ (okw3 h hp).2
        exact mx0_r h1 h2 c
      · rw [up1_n e]; exact b5 q hq
theorem vC_ign {Z : Zt} {G : Gt} {w : Nat} {W : Wv} (h : vC Z G w W) (ho : okW W) (hw : w < 100) {p : Nat} (hp : p < W.m) : vC Z (ignG Z w W.m W.mm p G) w (litV W p) := by
  have hm6 := ho.1
  have hl := vC_light h hp
  obtain ⟨a1, a2, a3, a4, a5, a6, a7, a8⟩ := id h
  have h3 : G (w + 2 + p) 3 = W.C p 3 := a3 p hp 3 (by decide)
  have h34 := (okw3 ho hp).2
  have hig : ignG Z w W.m W.mm p G = if lightV W p ≤ 0 then up2 G (w + 2 + p) 5 1 else up2 (up2 G (w + 8) (W.C p 3).toNatClampNeg (mx0 (W.gr (W.C p 3).toNatClampNeg - lightV W p))) (w + 2 + p) 5 2 := by
    unfold ignG
    rw [hl, h3, a4 _ h34]
  rw [hig]
  by_cases c : lightV W p ≤ 0
  · rw [if_pos c]
    refine vC_step h (fun a ha => ?_) ?_ ?_ (fun a ha i hi => ?_) (fun q hq => ?_) (fun q hq => ?_) rfl rfl
    · rw [up2_row (by omega)]
    · rw [up2_k (by omega)]; exact a1
    · rw [up2_k (by omega)]; exact a2
    · show _ = up2 W.C p 5 _ a i
      rw [if_pos c]
      by_cases e : a = p
      · subst e
        by_cases f : i = 5
        · subst f; rw [up2_s, up2_s]
        · rw [up2_i f, up2_i f]; exact a3 a ha i hi
      · rw [up2_k (by omega), up2_k e]; exact a3 a ha i hi
    · show _ = (if lightV W p ≤ 0 then W.gr else _) q
      rw [if_pos c, up2_k (by omega)]; exact a4 q hq
    · rw [up2_k (by omega)]; exact a5 q hq
  · rw [if_neg c]
    refine vC_step h (fun a ha => ?_) ?_ ?_ (fun a ha i hi => ?_) (fun q hq => ?_) (fun q hq => ?_) rfl rfl
    · rw [up2_row (by omega), up2_row (by omega)]
    · rw [up2_k (by omega), up2_k (by omega)]; exact a1
    · rw [up2_k (by omega), up2_k (by omega)]; exact a2
    · show _ = up2 W.C p 5 _ a i
      have ha : a < W.m := ha
      rw [if_neg c]
      by_cases e : a = p
      · subst e
        by_cases f : i = 5
        · subst f; rw [up2_s, up2_s]
        · rw [up2_i f, up2_i f, up2_k (by omega)]; exact a3 a ha i hi
      · rw [up2_k (by omega), up2_k e, up2_k (by omega)]; exact a3 a ha i hi
    · show _ = (if lightV W p ≤ 0 then W.gr else _) q
      rw [if_neg c, up2_k (by omega)]
      by_cases e : q = (W.C p 3).toNatClampNeg
      · rw [e, up2_s, up1_s]
      · rw [up2_i e, up1_n e]; exact a4 q hq
    · rw [up2_k (by omega), up2_k (by omega)]; exact a5 q hq
theorem litA_m {W : Wv} {s : Int32} : ∀ n, (litA W s n).m = W.m ∧ (litA W s n).mm = W.mm
  | 0 => ⟨rfl, rfl⟩
  | n + 1 => by
    unfold litA
    by_cases c : (s >>> (nI n &&& 31)) &&& 1 = 0
    · rw [if_pos c]; exact litA_m n
    · rw [if_neg c]; exact litA_m n
theorem litA_ok {W : Wv} {s : Int32} (h : okW W) : ∀ n, n ≤ W.m → okW (litA W s n)
  | 0, _ => h
  | n + 1, hn => by
    unfold litA
    by_cases c : (s >>> (nI n &&& 31)) &&& 1 = 0
    · rw [if_pos c]; exact litA_ok h n (by omega)
    · rw [if_neg c]; exact litV_ok (litA_ok h n (by omega)) (by rw [(litA_m n).1]; omega)
theorem vC_ignA {Z : Zt} {G : Gt} {w : Nat} {W : Wv} {s : Int32} (h : vC Z G w W) (ho : okW W) (hw : w < 100) : ∀ n, n ≤ W.m → vC Z (ignA Z w W.m W.mm s G n) w (litA W s n)
  | 0, _ => h
  | n + 1, hn => by
    unfold ignA litA
    have ih := vC_ignA (s := s) h ho hw n (by omega)
    have ok := litA_ok (s := s) ho n (by omega)
    have em := litA_m (W := W) (s := s) n
    by_cases c : (s >>> (nI n &&& 31)) &&& 1 = 0
    · rw [if_pos c, if_pos c]; exact ih
    · rw [if_neg c, if_neg c]
      have := vC_ign ih ok hw (p := n) (by rw [em.1]; omega)
      rw [em.1, em.2] at this
      exact this
/-- nothing changes but the World where all is tried -/
def trP (Z : Zt) (G : Gt) (Z' : Zt) (G' : Gt) : Prop := Z'.1 = Z.1 ∧ Z'.2.1 = Z.2.1 ∧ (∀ k i, ¬ (k = 58 ∧ i = 16) → Z'.2.2 k i = Z.2.2 k i) ∧ (∀ a, ¬ (58 ≤ a ∧ a < 75) → G' a = G a)
theorem trP_refl {Z : Zt} {G : Gt} : trP Z G Z G := ⟨rfl, rfl, fun _ _ _ => rfl, fun _ _ => rfl⟩
theorem trP_trans {Z Z1 Z2 : Zt} {G G1 G2 : Gt} (h : trP Z G Z1 G1) (h2 : trP Z1 G1 Z2 G2) : trP Z G Z2 G2 :=
  ⟨h2.1.trans h.1, h2.2.1.trans h.2.1, fun k i n => (h2.2.2.1 k i n).trans (h.2.2.1 k i n), fun a n => (h2.2.2.2 a n).trans (h.2.2.2 a n)⟩
theorem trP_G {Z Z1 : Zt} {G G1 G2 : Gt} (h : trP Z G Z1 G1) (h2 : ∀ a, ¬ (58 ≤ a ∧ a < 75) → G2 a = G1 a) : trP Z G Z1 G2 :=
  ⟨h.1, h.2.1, h.2.2.1, fun a n => (h2 a n).trans (h.2.2.2 a n)⟩
theorem RF0_58 : RF0 58 16 = none := by decide +kernel
theorem trP_OK {Z Z' : Zt} {G G' : Gt} (h : trP Z G Z' G') (hZ : OK Z) : OK Z' := by
  obtain ⟨h1, h2, h3, h4⟩ := h
  refine ⟨fun k x hx => by rw [h2]; exact hZ.1 k x hx, fun k i j hj => ?_, by rw [h1]; exact hZ.2.2⟩
  rw [h3 k i (fun z => by rw [z.1, z.2, RF0_58] at hj; exact absurd hj (by simp))]
  exact hZ.2.1 k i j hj
theorem trP_vC {Z Z' : Zt} {G G' : Gt} (h : trP Z G Z' G') {w : Nat} {W : Wv} (hv : vC Z G w W) (ho : W.m ≤ 6) (hw : w = 24 ∨ w = 41) : vC Z' G' w W := by
  obtain ⟨h1, h2, h3, h4⟩ := h
  exact vC_keep hv ho (fun a x y => h4 a (by omega)) (h3 w 16 (by omega)) (fun k x e => by rw [h2]; exact e) (fun k i j hk e => by rw [h3 k i (by omega)]; exact e) (fun a x ha _ => h4 a (by omega))
theorem minN_f {Z : Zt} {w m : Nat} {a : Nat} (h : ¬ (w ≤ a ∧ a < w + 10)) (hm : m ≤ 6) : ∀ (n mm : Nat) (G : Gt), minN Z w m n mm G a = G a
  | 0, _, _ => rfl
  | n + 1, mm, G => by
    unfold minN
    rw [minN_f h hm n]
    unfold min1
    rw [up2_row (by omega), gdW_o (by omega)]
theorem ignG_f {Z : Zt} {G : Gt} {w m mm p a : Nat} (h : ¬ (w ≤ a ∧ a < w + 10)) (hp : p < 6) : ignG Z w m mm p G a = G a := by
  unfold ignG
  by_cases c : lightW Z G w m mm p ≤ 0
  · rw [if_pos c, up2_row (by omega)]
  · rw [if_neg c, up2_row (by omega), up2_row (by omega)]
theorem ignA_f {Z : Zt} {G : Gt} {w m mm a : Nat} {s : Int32} (h : ¬ (w ≤ a ∧ a < w + 10)) : ∀ n, n ≤ 6 → ignA Z w m mm s G n a = G a
  | 0, _ => rfl
  | n + 1, hn => by
    unfold ignA
    by_cases c : (s >>> (nI n &&& 31)) &&& 1 = 0
    · rw [if_pos c]; exact ignA_f h n (by omega)
    · rw [if_neg c, ignG_f h (by omega)]; exact ignA_f h n (by omega)
theorem go_vC {Z : Zt} {G G' : Gt} {w v : Nat} {W : Wv} (hwv : w ≠ v) (hw : w < 90) (hg : goP G G' w v W.m) (h : vC Z G v W) : vC (Zheld Z w v) G' w W := by
  obtain ⟨a1, a2, a3, a4, a5, a6, a7, a8⟩ := h
  obtain ⟨g1, g2, g3, g4, g5, g6, g7⟩ := hg
  have e : (Zheld Z w v).2.2 w 16 = Z.2.2 v 16 := by show up2 Z.2.2 w 16 _ w 16 = _; rw [up2_s]
  obtain ⟨c1, c2, c3⟩ := sbO_keep (Z' := Zheld Z w v) (G' := G') a6 (fun _ _ h => h) (fun k i j hk e => by show up2 Z.2.2 w 16 _ k i = _; rw [up2_k (by omega)]; exact e) (fun a _ ha _ => g7 a (by omega))
  refine ⟨g4.trans a1, g5.trans a2, fun p hp i hi => (g1 p hp i hi).trans (a3 p hp i hi), fun q hq => (g2 q hq).trans (a4 q hq), fun q hq => (g3 q hq).trans (a5 q hq), ?_, ?_, fun p row mi => ?_⟩
  · rw [e]; exact c1
  · rw [e, c2]; exact a7
  · rw [e, c3]; exact a8 p row mi
theorem go_trP {Z : Zt} {G G' : Gt} {v m : Nat} (hg : goP G G' 58 v m) : trP Z G (Zheld Z 58 v) G' := by
  refine ⟨rfl, rfl, fun k i h => ?_, fun a h => hg.2.2.2.2.2.2 a (by omega)⟩
  show up2 Z.2.2 58 16 _ k i = _
  by_cases e : k = 58
  · rw [up2_i (fun z => h ⟨e, z⟩)]
  · rw [up2_k e]
