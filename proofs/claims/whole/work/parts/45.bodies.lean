-- ===== the class: bodies of acts =====
def rAdd (R : Nat × (Nat → Int32)) (b : Int32) : Nat × (Nat → Int32) := (R.1 + 1, up1 R.2 R.1 b)
def hisV (k : Nat) (num v x : Int32) : Int32 := match k with
  | 2 => x * 3 + num
  | 5 => x * 3 + num
  | 4 => -(x + num)
  | 6 => (x + num) ^^^ v
  | _ => x + num
def hisR (k : Nat) (R : Nat × (Nat → Int32)) : Nat × (Nat → Int32) := match k with
  | 2 => rAdd (rAdd R 30) 10
  | 5 => rAdd (rAdd R 30) 10
  | 4 => rAdd (rAdd R 50) 10
  | 6 => rAdd (rAdd R 71) 10
  | _ => rAdd R 10
def cl0V (k : Nat) (num v x : Int32) : Int32 := hisV k num v x - v
def cl0R (k : Nat) (R : Nat × (Nat → Int32)) : Nat × (Nat → Int32) := hisR k (rAdd R 11)
def cliV (k : Nat) (num v x : Int32) : Int32 := match k with
  | 1 => cl0V 1 num v x ^^^ 6
  | 4 => cl0V 4 num v (x + 1) ^^^ 6
  | 6 => cl0V 6 num v x + (2 + num)
  | j => cl0V j num v x
def cliR (k : Nat) (R : Nat × (Nat → Int32)) : Nat × (Nat → Int32) := match k with
  | 1 => cl0R 1 (rAdd R 20)
  | 4 => cl0R 4 (rAdd (rAdd R 51) 20)
  | 6 => rAdd (cl0R 6 (rAdd R 70)) 10
  | j => cl0R j R
def te0V (k : Nat) (num v x : Int32) : Int32 := cliV k num v x * 2
def te0R (k : Nat) (R : Nat × (Nat → Int32)) : Nat × (Nat → Int32) := cliR k (rAdd R 12)
def telV (k : Nat) (num v x : Int32) : Int32 := match k with
  | 3 => te0V 3 num v x + cliV 3 num v 1
  | 6 => te0V 6 num v x + cliV 6 num v 1
  | 5 => te0V 5 num v (x - num)
  | j => te0V j num v x
def telR (k : Nat) (R : Nat × (Nat → Int32)) : Nat × (Nat → Int32) := match k with
  | 3 => cliR 3 (te0R 3 (rAdd R 40))
  | 6 => cliR 6 (te0R 6 (rAdd R 40))
  | 5 => te0R 5 (rAdd R 60)
  | j => te0R j R
def aS (G : Gt) (R : Nat × (Nat → Int32)) (num v : Int32) : Prop := G 4 1 = nI R.1 ∧ (∀ i, i < 20 → i < R.1 → G 5 i = R.2 i) ∧ G 4 2 = num ∧ G 4 3 = v
abbrev AQ (Z : Zt) (G : Gt) (L : Lt) (R : Nat × (Nat → Int32)) (num v : Int32) : Zt → Gt → Lt → Prop := fun Z' G' L' => Z' = Z ∧ L' = L ∧ aS G' R num v ∧ ∀ a, a ≠ 4 → a ≠ 5 → G' a = G a
theorem kb_begin {Z : Zt} {G : Gt} {L : Lt} {R : Nat × (Nat → Int32)} {num v : Int32} (hZ : OK Z) (ha : aS G R num v) (hb : R.1 ≤ 90) (b : Int32) : AC mX0_begin 1 0 0 [.ref 4, .int b] Z G L (NP (AQ Z G L (rAdd R b) num v)) := by
  obtain ⟨a1, a2, a3, a4⟩ := ha
  refine AC.weaken (c_X0_begin hZ ⟨R.1, by omega, a1⟩ b) ?_
  rintro r Z' G' L' ⟨rfl, rfl, rfl, rfl⟩
  unfold g_X0_begin
  by_cases c : 20 ≤ G 4 1
  · rw [if_pos c, a1, nI_1]
    rw [a1] at c
    have h20 := (nI_leI (by decide) (by omega)).mp (show nI 20 ≤ nI R.1 from c)
    refine ⟨rfl, rfl, rfl, ⟨up2_s, fun i hi hr => ?_, ?_, ?_⟩, fun a h4 h5 => up2_row h4⟩
    · show up2 G 4 1 _ 5 i = up1 R.2 R.1 b i
      rw [up2_k (by decide), up1_n (by omega)]; exact a2 i hi (by omega)
    · rw [up2_i (by decide)]; exact a3
    · rw [up2_i (by decide)]; exact a4
  · rw [if_neg c, a1, nI_clamp (by omega), up2_k (by decide), a1, nI_1]
    refine ⟨rfl, rfl, rfl, ⟨up2_s, fun i hi hr => ?_, ?_, ?_⟩, fun a h4 h5 => by rw [up2_row h4, up2_row h5]⟩
    · have hr : i < R.1 + 1 := hr
      show up2 (up2 G 5 R.1 b) 4 1 _ 5 i = up1 R.2 R.1 b i
      rw [up2_k (by decide)]
      by_cases e : i = R.1
      · rw [e, up2_s, up1_s]
      · rw [up2_i e, up1_n e]; exact a2 i hi (by omega)
    · rw [up2_i (by decide), up2_k (by decide)]; exact a3
    · rw [up2_i (by decide), up2_k (by decide)]; exact a4
section AXQ2
variable {X : Option (Nat × (Nat → Int32))} {M : Mt} {d mc ms cu su pc : Nat} {lv : Lv} {st : List Value} {Z : Zt} {G : Gt} {L : Lt} {Q : Qt}
theorem ax_cUq {idx n d' k ci : Nat} {C owner : String} {x : MethodName} {M' : Mt} {av st0 : List Value} {r : Value} {P : Zt → Gt → Lt → Prop} (hd : decode M.2.1 pc = .ok (.invokevirtual idx, 3)) (hlk : LkU M.1.cls idx C owner x M' n) (hA : AC M' d' 0 0 (.ref k :: av) Z G L (RP r P)) (hst0 : st0 = av.reverse ++ .ref k :: st) (hsh : Z.2.1 k = some (.inl ci)) (hci : ∃ q : vw_C, CL[ci]? = some q ∧ q.1 = C) (hn9 : av.length = n) (hst : (st.map fun v => v.category).sum ≤ 8) (hdd : d' + 1 ≤ d) (hc1 : cu ≤ mc) (hc2 : su ≤ ms)
    (kk : ∀ (Z' : Zt) (G' : Gt) (L' : Lt), P Z' G' L' → AX X M d mc ms cu su (pc + 3) lv (r :: st) Z' G' L' Q) : AX X M d mc ms cu su pc lv st0 Z G L Q := by
  subst hst0
  intro p l e R s m args below meth c H locs ls dC dI tc ad A N0 ad0 Qr hC hW hl hs hv hg hn hr
  obtain ⟨k1, k2, k3, ⟨b0, m0, r0, k4⟩, k5, k6, k7, k8, k9, k10⟩ := hlk
  have hs2 := okS_app.mp hs
  obtain ⟨c1, c2, c3, c4, c5, c6, c7, c8, c9, c10, c11, c12⟩ := id hC
  obtain ⟨q, hq1, hq2⟩ := hci
  have hrecv : ∃ cell : Cell, H[ad k]? = some cell ∧ cell.vm.isStatics = false ∧ s.vm.findClass C = some cell.cls := by
    rw [← hq2]
    exact va_recv hW.1 hW.2.1 hq1 (cw_obj hW.2.2.2.2.2.2.2 hsh)
  have hcu : va_CU R s args M.1.cls C owner idx x M'.1 M'.2.1 M'.2.2.1 M'.2.2.2 (wsx M') (rmx d' 0 0) 0 0 n := by
    refine ⟨⟨rfl, rfl, by show d' + 1 ≤ R.frames; omega, by show 8 + (M'.2.2.1 + 11) + 64 * d' ≤ R.locals; omega, pay_in c6 (GoodIn_ws k8), List.mem_cons_self⟩, c6 _ k8, c6 _ k7, ⟨k9.1, k9.2.1⟩, fun sig h => ?_, c6 _ k1, c6 _ k2, va_Decl.of (c6 _ k3) (c6 _ k4), c6 _ k5, c6 _ k6⟩
    have h2 := k9.2.2
    rw [h] at h2
    exact (Option.some.inj h2).symm
  refine ax_back hC hW hl hs2.2.2 hv hg hn hr (va_runU (C := C) (b := ad k) (As := cs ad av) (rest := cs ad st) ⟨c1, c2, c3, c5, c6⟩ (hA l dC dI tc ad H.size) hcu ⟨Pcx_blind, hrecv, Wd_pre hW (av := .ref k :: av) ⟨hs2.2.1, okS_rev' hs2.1⟩⟩ rfl (by rw [cs_len]; exact hn9) hv.1 (by show cs ad (av.reverse ++ .ref k :: st) = _; rw [cs_app, cs_rev]; rfl) (lv_room (by rw [cs_cat]; exact hst)) hd ⟨by omega, by omega⟩) (fun _ _ _ _ h => by obtain ⟨rfl, h⟩ := h; exact kk _ _ _ h)
theorem ax_cPq {idx n d' k ci : Nat} {x : MethodName} {M' : Mt} {av st0 : List Value} {r : Value} {P : Zt → Gt → Lt → Prop} (hd : decode M.2.1 pc = .ok (.invokespecial idx, 3)) (hlk : LkP M.1.cls idx x M' n) (hA : AC M' d' 0 0 (.ref k :: av) Z G L (RP r P)) (hst0 : st0 = av.reverse ++ .ref k :: st) (hsh : Z.2.1 k = some (.inl ci)) (hn9 : av.length = n) (hst : (st.map fun v => v.category).sum ≤ 8) (hdd : d' + 1 ≤ d) (hc1 : cu ≤ mc) (hc2 : su ≤ ms)
    (kk : ∀ (Z' : Zt) (G' : Gt) (L' : Lt), P Z' G' L' → AX X M d mc ms cu su (pc + 3) lv (r :: st) Z' G' L' Q) : AX X M d mc ms cu su pc lv st0 Z G L Q := by
  subst hst0
  intro p l e R s m args below meth c H locs ls dC dI tc ad A N0 ad0 Qr hC hW hl hs hv hg hn hr
  obtain ⟨k1, k2, k3, k4, k5, k6, k7, k8, k9, k10, k11⟩ := hlk
  have hs2 := okS_app.mp hs
  obtain ⟨c1, c2, c3, c4, c5, c6, c7, c8, c9, c10, c11, c12⟩ := id hC
  have hci : ci < 13 := hW.2.2.2.2.2.2.2.2.2.2.2 k ci hsh
  obtain ⟨q, hq1⟩ : ∃ q : vw_C, CL[ci]? = some q := ⟨CL[ci]'hci, List.getElem?_eq_getElem hci⟩
  obtain ⟨cell, hcl1, hcl2, hcl3⟩ := va_recv hW.1 hW.2.1 hq1 (cw_obj (tc := tc) (ad := ad) (G := G) (L := L) hW.2.2.2.2.2.2.2 hsh)
  obtain ⟨kB, hkB, -⟩ := Vm.findClass_spec hcl3
  have hK : Back l R p e below s args M'.1 3 8 (PreOf R 0 0 (Pcx dC dI tc ad H.size (.ref k :: av) Z G L)) (PostOf (Qcx dC dI tc ad H.size Z G L (RP r P)) 0 0 (va_A (cw tc ad Z G L) H.size)) := back_of (bytes := M'.2.1) (maxL := M'.2.2.1) (ret := M'.2.2.2) (hA l dC dI tc ad H.size) Pcx_blind rfl rfl (by show d' + 1 ≤ R.frames; omega) (by show 8 + (M'.2.2.1 + 11) + 64 * d' ≤ R.locals; omega) (pay_in c6 (GoodIn_ws k8)) List.mem_cons_self (fun a' U hW => word_at hW (Or.inl (by first | rfl | simp [Cond.onTables, Cond.keeps, Cond.steady])) (c6 _ k7))
  have hpre := Wd_pre hW (av := .ref k :: av) ⟨hs2.2.1, okS_rev' hs2.1⟩
  have run : va_Run p l e R s m args below meth c H locs cu su 0 0 (F0 m pc ls (cs ad (av.reverse ++ .ref k :: st))) (cs ad st) (Qcx dC dI tc ad H.size Z G L (RP r P) (Value.ref (ad k) :: cs ad av).toArray) (va_A (cw tc ad Z G L) H.size) := by
    intro T hT Xs
    obtain ⟨v, vm₁, ⟨U', l2, c2', s2⟩, hW₁, X', ⟨g', mk, t, Lc, e1, e2, hq, h1, hL, h2, h3⟩, stp⟩ := callUp Xs c1 (bytes := M'.2.1) (maxL := M'.2.2.1) (ret := M'.2.2.2) c5 (c6 _ k1) (c6 _ k2) (c6 _ k3) k4 (k5.imp id (fun h => c6 _ h)) (c6 _ k6) (c6 _ k8) k9 hK (b := ad k) (cellB := cell) (by rw [hT]; exact hcl1) hcl2 hkB (g := F0 m pc ls (cs ad (av.reverse ++ .ref k :: st))) rfl (hv.1.trans c3.symm) (argsL := cs ad av) (rest := cs ad st) (fun sig h => by rw [cs_len, hn9]; have h2 := k10; rw [h] at h2; exact (Option.some.inj h2).symm) (by show cs ad (av.reverse ++ .ref k :: st) = _; rw [cs_app, cs_rev]; rfl) (lv_room (by rw [cs_cat]; exact hst)) (by rw [c2]; exact hd)
      (fun vm₁ hW₁ => ⟨by show cu + 0 ≤ R.cells; omega, by show su + 0 ≤ R.slots; omega, hpre (T.setVm vm₁) hT hW₁⟩)
    dsimp only [Pt.U, Pt.locs, Pt.cells, Pt.slots] at X' e1 e2 h1 h2 h3 stp
    subst h1; subst h2; subst h3
    exact ⟨v, (T.setVm vm₁).calling g' mk (Value.ref (ad k) :: cs ad av).toArray, t, U', Lc, hT, X', hL, e1, e2, hq, stp⟩
  exact ax_back hC hW hl hs2.2.2 hv hg hn hr run (fun _ _ _ _ h => by obtain ⟨rfl, h⟩ := h; exact kk _ _ _ h)
end AXQ2
theorem h0_0 {Z : Zt} {G : Gt} {L : Lt} {R : Nat × (Nat → Int32)} {num v : Int32} (hZ : OK Z) (ha : aS G R num v) (hb : R.1 ≤ 89) (x : Int32) : AC mX5_hisses 2 0 0 [.ref 17, .ref 4, .int x] Z G L (RP (.int (x + num)) (AQ Z G L (rAdd R 10) num v)) := by
  refine AC.intro (by decide +kernel) (Nat.le_of_ble_eq_true rfl) ?_
  refine ax_lv [(0, .ref 17), (1, .ref 4), (2, .int x)] ⟨rfl, rfl, rfl, trivial⟩ ?_
  refine ax_aload_n (i := 1) dX5_hisses_0 rfl rfl ?_
  refine ax_bipush (v := 10) dX5_hisses_1 (by decide) ?_
  refine ax_cVq0 dX5_hisses_3 lk_X5_7 (kb_begin hZ ha (show _ ≤ _ by first | omega | (simp only [rAdd, hisR, cl0R, cliR, te0R]; omega)) 10) rfl (OKs hZ rfl) ⟨_, rfl, rfl⟩ rfl (Nat.le_of_ble_eq_true rfl) (Nat.le_of_ble_eq_true rfl) (Nat.le_of_ble_eq_true rfl) (Nat.le_of_ble_eq_true rfl) ?_
  rintro _ G1 _ ⟨rfl, rfl, ar1, fr'1⟩
  have fr1 := fr'1
  refine ax_iload_n (i := 2) dX5_hisses_6 rfl rfl ?_
  refine ax_aload_n (i := 1) dX5_hisses_7 rfl rfl ?_
  refine ax_getI dX5_hisses_8 fl_X5_13 rfl (OKs hZ rfl) ?_
  refine ax_top (congrArg Value.int ar1.2.2.1) ?_
  refine ax_iadd dX5_hisses_11 ?_
  refine ax_iret dX5_hisses_12 rfl rfl (Nat.le_of_ble_eq_true rfl) (Nat.le_of_ble_eq_true rfl) ?_
  exact ⟨rfl, rfl, rfl, ar1, fr1⟩
theorem h0_1 {Z : Zt} {G : Gt} {L : Lt} {R : Nat × (Nat → Int32)} {num v : Int32} (hZ : OK Z) (ha : aS G R num v) (hb : R.1 ≤ 89) (x : Int32) : AC mX5_hisses 2 0 0 [.ref 18, .ref 4, .int x] Z G L (RP (.int (x + num)) (AQ Z G L (rAdd R 10) num v)) := by
  refine AC.intro (by decide +kernel) (Nat.le_of_ble_eq_true rfl) ?_
  refine ax_lv [(0, .ref 18), (1, .ref 4), (2, .int x)] ⟨rfl, rfl, rfl, trivial⟩ ?_
  refine ax_aload_n (i := 1) dX5_hisses_0 rfl rfl ?_
  refine ax_bipush (v := 10) dX5_hisses_1 (by decide) ?_
  refine ax_cVq0 dX5_hisses_3 lk_X5_7 (kb_begin hZ ha (show _ ≤ _ by first | omega | (simp only [rAdd, hisR, cl0R, cliR, te0R]; omega)) 10) rfl (OKs hZ rfl) ⟨_, rfl, rfl⟩ rfl (Nat.le_of_ble_eq_true rfl) (Nat.le_of_ble_eq_true rfl) (Nat.le_of_ble_eq_true rfl) (Nat.le_of_ble_eq_true rfl) ?_
  rintro _ G1 _ ⟨rfl, rfl, ar1, fr'1⟩
  have fr1 := fr'1
  refine ax_iload_n (i := 2) dX5_hisses_6 rfl rfl ?_
  refine ax_aload_n (i := 1) dX5_hisses_7 rfl rfl ?_
  refine ax_getI dX5_hisses_8 fl_X5_13 rfl (OKs hZ rfl) ?_
  refine ax_top (congrArg Value.int ar1.2.2.1) ?_
  refine ax_iadd dX5_hisses_11 ?_
  refine ax_iret dX5_hisses_12 rfl rfl (Nat.le_of_ble_eq_true rfl) (Nat.le_of_ble_eq_true rfl) ?_
  exact ⟨rfl, rfl, rfl, ar1, fr1⟩
theorem h0_2 {Z : Zt} {G : Gt} {L : Lt} {R : Nat × (Nat → Int32)} {num v : Int32} (hZ : OK Z) (ha : aS G R num v) (hb : R.1 ≤ 89) (x : Int32) : AC mX5_hisses 2 0 0 [.ref 19, .ref 4, .int x] Z G L (RP (.int (x + num)) (AQ Z G L (rAdd R 10) num v)) := by
  refine AC.intro (by decide +kernel) (Nat.le_of_ble_eq_true rfl) ?_
  refine ax_lv [(0, .ref 19), (1, .ref 4), (2, .int x)] ⟨rfl, rfl, rfl, trivial⟩ ?_
  refine ax_aload_n (i := 1) dX5_hisses_0 rfl rfl ?_
  refine ax_bipush (v := 10) dX5_hisses_1 (by decide) ?_
  refine ax_cVq0 dX5_hisses_3 lk_X5_7 (kb_begin hZ ha (show _ ≤ _ by first | omega | (simp only [rAdd, hisR, cl0R, cliR, te0R]; omega)) 10) rfl (OKs hZ rfl) ⟨_, rfl, rfl⟩ rfl (Nat.le_of_ble_eq_true rfl) (Nat.le_of_ble_eq_true rfl) (Nat.le_of_ble_eq_true rfl) (Nat.le_of_ble_eq_true rfl) ?_
  rintro _ G1 _ ⟨rfl, rfl, ar1, fr'1⟩
  have fr1 := fr'1
  refine ax_iload_n (i := 2) dX5_hisses_6 rfl rfl ?_
  refine ax_aload_n (i := 1) dX5_hisses_7 rfl rfl ?_
  refine ax_getI dX5_hisses_8 fl_X5_13 rfl (OKs hZ rfl) ?_
  refine ax_top (congrArg Value.int ar1.2.2.1) ?_
  refine ax_iadd dX5_hisses_11 ?_
  refine ax_iret dX5_hisses_12 rfl rfl (Nat.le_of_ble_eq_true rfl) (Nat.le_of_ble_eq_true rfl) ?_
  exact ⟨rfl, rfl, rfl, ar1, fr1⟩
theorem h_2 {Z : Zt} {G : Gt} {L : Lt} {R : Nat × (Nat → Int32)} {num v : Int32} (hZ : OK Z) (ha : aS G R num v) (hb : R.1 ≤ 88) (x : Int32) : AC mX9_hisses 3 0 0 [.ref 19, .ref 4, .int x] Z G L (RP (.int (hisV 2 num v x)) (AQ Z G L (hisR 2 R) num v)) := by
  refine AC.intro (by decide +kernel) (Nat.le_of_ble_eq_true rfl) ?_
  refine ax_lv [(0, .ref 19), (1, .ref 4), (2, .int x)] ⟨rfl, rfl, rfl, trivial⟩ ?_
  refine ax_aload_n (i := 1) dX9_hisses_0 rfl rfl ?_
  refine ax_bipush (v := 30) dX9_hisses_1 (by decide) ?_
  refine ax_cVq0 dX9_hisses_3 lk_X9_7 (kb_begin hZ ha (show _ ≤ _ by first | omega | (simp only [rAdd, hisR, cl0R, cliR, te0R]; omega)) 30) rfl (OKs hZ rfl) ⟨_, rfl, rfl⟩ rfl (Nat.le_of_ble_eq_true rfl) (Nat.le_of_ble_eq_true rfl) (Nat.le_of_ble_eq_true rfl) (Nat.le_of_ble_eq_true rfl) ?_
  rintro _ G1 _ ⟨rfl, rfl, ar1, fr'1⟩
  have fr1 := fr'1
  refine ax_aload_n (i := 0) dX9_hisses_6 rfl rfl ?_
  refine ax_aload_n (i := 1) dX9_hisses_7 rfl rfl ?_
  refine ax_iload_n (i := 2) dX9_hisses_8 rfl rfl ?_
  refine ax_iconst (v := 3) dX9_hisses_9 (by decide) ?_
  refine ax_imul dX9_hisses_10 ?_
  refine ax_cPq dX9_hisses_11 lp_X9_13 (h0_2 hZ ar1 (show _ ≤ _ by first | omega | (simp only [rAdd, hisR, cl0R, cliR, te0R]; omega)) (x * 3)) rfl (OKs hZ rfl) rfl (Nat.le_of_ble_eq_true rfl) (Nat.le_of_ble_eq_true rfl) (Nat.le_of_ble_eq_true rfl) (Nat.le_of_ble_eq_true rfl) ?_
  rintro _ G2 _ ⟨rfl, rfl, ar2, fr'2⟩
  have fr2 : ∀ a, a ≠ 4 → a ≠ 5 → G2 a = G a := fun a h4 h5 => (fr'2 a h4 h5).trans (fr1 a h4 h5)
  refine ax_iret dX9_hisses_14 rfl rfl (Nat.le_of_ble_eq_true rfl) (Nat.le_of_ble_eq_true rfl) ?_
  exact ⟨rfl, rfl, rfl, ar2, fr2⟩
theorem h0_3 {Z : Zt} {G : Gt} {L : Lt} {R : Nat × (Nat → Int32)} {num v : Int32} (hZ : OK Z) (ha : aS G R num v) (hb : R.1 ≤ 89) (x : Int32) : AC mX5_hisses 2 0 0 [.ref 20, .ref 4, .int x] Z G L (RP (.int (x + num)) (AQ Z G L (rAdd R 10) num v)) := by
  refine AC.intro (by decide +kernel) (Nat.le_of_ble_eq_true rfl) ?_
  refine ax_lv [(0, .ref 20), (1, .ref 4), (2, .int x)] ⟨rfl, rfl, rfl, trivial⟩ ?_
  refine ax_aload_n (i := 1) dX5_hisses_0 rfl rfl ?_
  refine ax_bipush (v := 10) dX5_hisses_1 (by decide) ?_
  refine ax_cVq0 dX5_hisses_3 lk_X5_7 (kb_begin hZ ha (show _ ≤ _ by first | omega | (simp only [rAdd, hisR, cl0R, cliR, te0R]; omega)) 10) rfl (OKs hZ rfl) ⟨_, rfl, rfl⟩ rfl (Nat.le_of_ble_eq_true rfl) (Nat.le_of_ble_eq_true rfl) (Nat.le_of_ble_eq_true rfl) (Nat.le_of_ble_eq_true rfl) ?_
  rintro _ G1 _ ⟨rfl, rfl, ar1, fr'1⟩
  have fr1 := fr'1
  refine ax_iload_n (i := 2) dX5_hisses_6 rfl rfl ?_
  refine ax_aload_n (i := 1) dX5_hisses_7 rfl rfl ?_
  refine ax_getI dX5_hisses_8 fl_X5_13 rfl (OKs hZ rfl) ?_
  refine ax_top (congrArg Value.int ar1.2.2.1) ?_
  refine ax_iadd dX5_hisses_11 ?_
  refine ax_iret dX5_hisses_12 rfl rfl (Nat.le_of_ble_eq_true rfl) (Nat.le_of_ble_eq_true rfl) ?_
  exact ⟨rfl, rfl, rfl, ar1, fr1⟩
theorem h0_4 {Z : Zt} {G : Gt} {L : Lt} {R : Nat × (Nat → Int32)} {num v : Int32} (hZ : OK Z) (ha : aS G R num v) (hb : R.1 ≤ 89) (x : Int32) : AC mX5_hisses 2 0 0 [.ref 21, .ref 4, .int x] Z G L (RP (.int (x + num)) (AQ Z G L (rAdd R 10) num v)) := by
  refine AC.intro (by decide +kernel) (Nat.le_of_ble_eq_true rfl) ?_
  refine ax_lv [(0, .ref 21), (1, .ref 4), (2, .int x)] ⟨rfl, rfl, rfl, trivial⟩ ?_
  refine ax_aload_n (i := 1) dX5_hisses_0 rfl rfl ?_
  refine ax_bipush (v := 10) dX5_hisses_1 (by decide) ?_
  refine ax_cVq0 dX5_hisses_3 lk_X5_7 (kb_begin hZ ha (show _ ≤ _ by first | omega | (simp only [rAdd, hisR, cl0R, cliR, te0R]; omega)) 10) rfl (OKs hZ rfl) ⟨_, rfl, rfl⟩ rfl (Nat.le_of_ble_eq_true rfl) (Nat.le_of_ble_eq_true rfl) (Nat.le_of_ble_eq_true rfl) (Nat.le_of_ble_eq_true rfl) ?_
  rintro _ G1 _ ⟨rfl, rfl, ar1, fr'1⟩
  have fr1 := fr'1
  refine ax_iload_n (i := 2) dX5_hisses_6 rfl rfl ?_
  refine ax_aload_n (i := 1) dX5_hisses_7 rfl rfl ?_
  refine ax_getI dX5_hisses_8 fl_X5_13 rfl (OKs hZ rfl) ?_
  refine ax_top (congrArg Value.int ar1.2.2.1) ?_
  refine ax_iadd dX5_hisses_11 ?_
  refine ax_iret dX5_hisses_12 rfl rfl (Nat.le_of_ble_eq_true rfl) (Nat.le_of_ble_eq_true rfl) ?_
  exact ⟨rfl, rfl, rfl, ar1, fr1⟩
theorem h_4 {Z : Zt} {G : Gt} {L : Lt} {R : Nat × (Nat → Int32)} {num v : Int32} (hZ : OK Z) (ha : aS G R num v) (hb : R.1 ≤ 88) (x : Int32) : AC mX1_hisses 3 0 0 [.ref 21, .ref 4, .int x] Z G L (RP (.int (hisV 4 num v x)) (AQ Z G L (hisR 4 R) num v)) := by
  refine AC.intro (by decide +kernel) (Nat.le_of_ble_eq_true rfl) ?_
  refine ax_lv [(0, .ref 21), (1, .ref 4), (2, .int x)] ⟨rfl, rfl, rfl, trivial⟩ ?_
  refine ax_aload_n (i := 1) dX1_hisses_0 rfl rfl ?_
  refine ax_bipush (v := 50) dX1_hisses_1 (by decide) ?_
  refine ax_cVq0 dX1_hisses_3 lk_X1_24 (kb_begin hZ ha (show _ ≤ _ by first | omega | (simp only [rAdd, hisR, cl0R, cliR, te0R]; omega)) 50) rfl (OKs hZ rfl) ⟨_, rfl, rfl⟩ rfl (Nat.le_of_ble_eq_true rfl) (Nat.le_of_ble_eq_true rfl) (Nat.le_of_ble_eq_true rfl) (Nat.le_of_ble_eq_true rfl) ?_
  rintro _ G1 _ ⟨rfl, rfl, ar1, fr'1⟩
  have fr1 := fr'1
  refine ax_aload_n (i := 0) dX1_hisses_6 rfl rfl ?_
  refine ax_aload_n (i := 1) dX1_hisses_7 rfl rfl ?_
  refine ax_iload_n (i := 2) dX1_hisses_8 rfl rfl ?_
  refine ax_cPq dX1_hisses_9 lp_X1_30 (h0_4 hZ ar1 (show _ ≤ _ by first | omega | (simp only [rAdd, hisR, cl0R, cliR, te0R]; omega)) x) rfl (OKs hZ rfl) rfl (Nat.le_of_ble_eq_true rfl) (Nat.le_of_ble_eq_true rfl) (Nat.le_of_ble_eq_true rfl) (Nat.le_of_ble_eq_true rfl) ?_
  rintro _ G2 _ ⟨rfl, rfl, ar2, fr'2⟩
  have fr2 : ∀ a, a ≠ 4 → a ≠ 5 → G2 a = G a := fun a h4 h5 => (fr'2 a h4 h5).trans (fr1 a h4 h5)
  refine ax_ineg dX1_hisses_12 ?_
  refine ax_iret dX1_hisses_13 rfl rfl (Nat.le_of_ble_eq_true rfl) (Nat.le_of_ble_eq_true rfl) ?_
  exact ⟨rfl, rfl, rfl, ar2, fr2⟩
theorem h0_5 {Z : Zt} {G : Gt} {L : Lt} {R : Nat × (Nat → Int32)} {num v : Int32} (hZ : OK Z) (ha : aS G R num v) (hb : R.1 ≤ 89) (x : Int32) : AC mX5_hisses 2 0 0 [.ref 22, .ref 4, .int x] Z G L (RP (.int (x + num)) (AQ Z G L (rAdd R 10) num v)) := by
  refine AC.intro (by decide +kernel) (Nat.le_of_ble_eq_true rfl) ?_
  refine ax_lv [(0, .ref 22), (1, .ref 4), (2, .int x)] ⟨rfl, rfl, rfl, trivial⟩ ?_
  refine ax_aload_n (i := 1) dX5_hisses_0 rfl rfl ?_
  refine ax_bipush (v := 10) dX5_hisses_1 (by decide) ?_
  refine ax_cVq0 dX5_hisses_3 lk_X5_7 (kb_begin hZ ha (show _ ≤ _ by first | omega | (simp only [rAdd, hisR, cl0R, cliR, te0R]; omega)) 10) rfl (OKs hZ rfl) ⟨_, rfl, rfl⟩ rfl (Nat.le_of_ble_eq_true rfl) (Nat.le_of_ble_eq_true rfl) (Nat.le_of_ble_eq_true rfl) (Nat.le_of_ble_eq_true rfl) ?_
  rintro _ G1 _ ⟨rfl, rfl, ar1, fr'1⟩
  have fr1 := fr'1
  refine ax_iload_n (i := 2) dX5_hisses_6 rfl rfl ?_
  refine ax_aload_n (i := 1) dX5_hisses_7 rfl rfl ?_
  refine ax_getI dX5_hisses_8 fl_X5_13 rfl (OKs hZ rfl) ?_
  refine ax_top (congrArg Value.int ar1.2.2.1) ?_
  refine ax_iadd dX5_hisses_11 ?_
  refine ax_iret dX5_hisses_12 rfl rfl (Nat.le_of_ble_eq_true rfl) (Nat.le_of_ble_eq_true rfl) ?_
  exact ⟨rfl, rfl, rfl, ar1, fr1⟩
theorem h_5 {Z : Zt} {G : Gt} {L : Lt} {R : Nat × (Nat → Int32)} {num v : Int32} (hZ : OK Z) (ha : aS G R num v) (hb : R.1 ≤ 88) (x : Int32) : AC mX9_hisses 3 0 0 [.ref 22, .ref 4, .int x] Z G L (RP (.int (hisV 5 num v x)) (AQ Z G L (hisR 5 R) num v)) := by
  refine AC.intro (by decide +kernel) (Nat.le_of_ble_eq_true rfl) ?_
  refine ax_lv [(0, .ref 22), (1, .ref 4), (2, .int x)] ⟨rfl, rfl, rfl, trivial⟩ ?_
  refine ax_aload_n (i := 1) dX9_hisses_0 rfl rfl ?_
  refine ax_bipush (v := 30) dX9_hisses_1 (by decide) ?_
  refine ax_cVq0 dX9_hisses_3 lk_X9_7 (kb_begin hZ ha (show _ ≤ _ by first | omega | (simp only [rAdd, hisR, cl0R, cliR, te0R]; omega)) 30) rfl (OKs hZ rfl) ⟨_, rfl, rfl⟩ rfl (Nat.le_of_ble_eq_true rfl) (Nat.le_of_ble_eq_true rfl) (Nat.le_of_ble_eq_true rfl) (Nat.le_of_ble_eq_true rfl) ?_
  rintro _ G1 _ ⟨rfl, rfl, ar1, fr'1⟩
  have fr1 := fr'1
  refine ax_aload_n (i := 0) dX9_hisses_6 rfl rfl ?_
  refine ax_aload_n (i := 1) dX9_hisses_7 rfl rfl ?_
  refine ax_iload_n (i := 2) dX9_hisses_8 rfl rfl ?_
  refine ax_iconst (v := 3) dX9_hisses_9 (by decide) ?_
  refine ax_imul dX9_hisses_10 ?_
  refine ax_cPq dX9_hisses_11 lp_X9_13 (h0_5 hZ ar1 (show _ ≤ _ by first | omega | (simp only [rAdd, hisR, cl0R, cliR, te0R]; omega)) (x * 3)) rfl (OKs hZ rfl) rfl (Nat.le_of_ble_eq_true rfl) (Nat.le_of_ble_eq_true rfl) (Nat.le_of_ble_eq_true rfl) (Nat.le_of_ble_eq_true rfl) ?_
  rintro _ G2 _ ⟨rfl, rfl, ar2, fr'2⟩
  have fr2 : ∀ a, a ≠ 4 → a ≠ 5 → G2 a = G a := fun a h4 h5 => (fr'2 a h4 h5).trans (fr1 a h4 h5)
  refine ax_iret dX9_hisses_14 rfl rfl (Nat.le_of_ble_eq_true rfl) (Nat.le_of_ble_eq_true rfl) ?_
  exact ⟨rfl, rfl, rfl, ar2, fr2⟩
theorem h0_6 {Z : Zt} {G : Gt} {L : Lt} {R : Nat × (Nat → Int32)} {num v : Int32} (hZ : OK Z) (ha : aS G R num v) (hb : R.1 ≤ 89) (x : Int32) : AC mX5_hisses 2 0 0 [.ref 23, .ref 4, .int x] Z G L (RP (.int (x + num)) (AQ Z G L (rAdd R 10) num v)) := by
  refine AC.intro (by decide +kernel) (Nat.le_of_ble_eq_true rfl) ?_
  refine ax_lv [(0, .ref 23), (1, .ref 4), (2, .int x)] ⟨rfl, rfl, rfl, trivial⟩ ?_
  refine ax_aload_n (i := 1) dX5_hisses_0 rfl rfl ?_
  refine ax_bipush (v := 10) dX5_hisses_1 (by decide) ?_
  refine ax_cVq0 dX5_hisses_3 lk_X5_7 (kb_begin hZ ha (show _ ≤ _ by first | omega | (simp only [rAdd, hisR, cl0R, cliR, te0R]; omega)) 10) rfl (OKs hZ rfl) ⟨_, rfl, rfl⟩ rfl (Nat.le_of_ble_eq_true rfl) (Nat.le_of_ble_eq_true rfl) (Nat.le_of_ble_eq_true rfl) (Nat.le_of_ble_eq_true rfl) ?_
  rintro _ G1 _ ⟨rfl, rfl, ar1, fr'1⟩
  have fr1 := fr'1
  refine ax_iload_n (i := 2) dX5_hisses_6 rfl rfl ?_
  refine ax_aload_n (i := 1) dX5_hisses_7 rfl rfl ?_
  refine ax_getI dX5_hisses_8 fl_X5_13 rfl (OKs hZ rfl) ?_
  refine ax_top (congrArg Value.int ar1.2.2.1) ?_
  refine ax_iadd dX5_hisses_11 ?_
  refine ax_iret dX5_hisses_12 rfl rfl (Nat.le_of_ble_eq_true rfl) (Nat.le_of_ble_eq_true rfl) ?_
  exact ⟨rfl, rfl, rfl, ar1, fr1⟩
theorem h_6 {Z : Zt} {G : Gt} {L : Lt} {R : Nat × (Nat → Int32)} {num v : Int32} (hZ : OK Z) (ha : aS G R num v) (hb : R.1 ≤ 88) (x : Int32) : AC mX7_hisses 3 0 0 [.ref 23, .ref 4, .int x] Z G L (RP (.int (hisV 6 num v x)) (AQ Z G L (hisR 6 R) num v)) := by
  refine AC.intro (by decide +kernel) (Nat.le_of_ble_eq_true rfl) ?_
  refine ax_lv [(0, .ref 23), (1, .ref 4), (2, .int x)] ⟨rfl, rfl, rfl, trivial⟩ ?_
  refine ax_aload_n (i := 1) dX7_hisses_0 rfl rfl ?_
  refine ax_bipush (v := 71) dX7_hisses_1 (by decide) ?_
  refine ax_cVq0 dX7_hisses_3 lk_X7_19 (kb_begin hZ ha (show _ ≤ _ by first | omega | (simp only [rAdd, hisR, cl0R, cliR, te0R]; omega)) 71) rfl (OKs hZ rfl) ⟨_, rfl, rfl⟩ rfl (Nat.le_of_ble_eq_true rfl) (Nat.le_of_ble_eq_true rfl) (Nat.le_of_ble_eq_true rfl) (Nat.le_of_ble_eq_true rfl) ?_
  rintro _ G1 _ ⟨rfl, rfl, ar1, fr'1⟩
  have fr1 := fr'1
  refine ax_aload_n (i := 0) dX7_hisses_6 rfl rfl ?_
  refine ax_aload_n (i := 1) dX7_hisses_7 rfl rfl ?_
  refine ax_iload_n (i := 2) dX7_hisses_8 rfl rfl ?_
  refine ax_cPq dX7_hisses_9 lp_X7_29 (h0_6 hZ ar1 (show _ ≤ _ by first | omega | (simp only [rAdd, hisR, cl0R, cliR, te0R]; omega)) x) rfl (OKs hZ rfl) rfl (Nat.le_of_ble_eq_true rfl) (Nat.le_of_ble_eq_true rfl) (Nat.le_of_ble_eq_true rfl) (Nat.le_of_ble_eq_true rfl) ?_
  rintro _ G2 _ ⟨rfl, rfl, ar2, fr'2⟩
  have fr2 : ∀ a, a ≠ 4 → a ≠ 5 → G2 a = G a := fun a h4 h5 => (fr'2 a h4 h5).trans (fr1 a h4 h5)
  refine ax_aload_n (i := 1) dX7_hisses_12 rfl rfl ?_
  refine ax_getI dX7_hisses_13 fl_X7_32 rfl (OKs hZ rfl) ?_
  refine ax_top (congrArg Value.int ar2.2.2.2) ?_
  refine ax_ixor dX7_hisses_16 ?_
  refine ax_iret dX7_hisses_17 rfl rfl (Nat.le_of_ble_eq_true rfl) (Nat.le_of_ble_eq_true rfl) ?_
  exact ⟨rfl, rfl, rfl, ar2, fr2⟩
theorem c0_0 {Z : Zt} {G : Gt} {L : Lt} {R : Nat × (Nat → Int32)} {num v : Int32} (hZ : OK Z) (ha : aS G R num v) (hb : R.1 ≤ 80) (x : Int32) : AC mX5_climbs 4 0 0 [.ref 17, .ref 4, .int x] Z G L (RP (.int (cl0V 0 num v x)) (AQ Z G L (cl0R 0 R) num v)) := by
  refine AC.intro (by decide +kernel) (Nat.le_of_ble_eq_true rfl) ?_
  refine ax_lv [(0, .ref 17), (1, .ref 4), (2, .int x)] ⟨rfl, rfl, rfl, trivial⟩ ?_
  refine ax_aload_n (i := 1) dX5_climbs_0 rfl rfl ?_
  refine ax_bipush (v := 11) dX5_climbs_1 (by decide) ?_
  refine ax_cVq0 dX5_climbs_3 lk_X5_7 (kb_begin hZ ha (show _ ≤ _ by first | omega | (simp only [rAdd, hisR, cl0R, cliR, te0R]; omega)) 11) rfl (OKs hZ rfl) ⟨_, rfl, rfl⟩ rfl (Nat.le_of_ble_eq_true rfl) (Nat.le_of_ble_eq_true rfl) (Nat.le_of_ble_eq_true rfl) (Nat.le_of_ble_eq_true rfl) ?_
  rintro _ G1 _ ⟨rfl, rfl, ar1, fr'1⟩
  have fr1 := fr'1
  refine ax_aload_n (i := 0) dX5_climbs_6 rfl rfl ?_
  refine ax_aload_n (i := 1) dX5_climbs_7 rfl rfl ?_
  refine ax_iload_n (i := 2) dX5_climbs_8 rfl rfl ?_
  refine ax_cUq dX5_climbs_9 lu_X5_17_X5 (h0_0 hZ ar1 (show _ ≤ _ by first | omega | (simp only [rAdd, hisR, cl0R, cliR, te0R]; omega)) x) rfl (OKs hZ rfl) ⟨_, rfl, rfl⟩ rfl (Nat.le_of_ble_eq_true rfl) (Nat.le_of_ble_eq_true rfl) (Nat.le_of_ble_eq_true rfl) (Nat.le_of_ble_eq_true rfl) ?_
  rintro _ G2 _ ⟨rfl, rfl, ar2, fr'2⟩
  have fr2 : ∀ a, a ≠ 4 → a ≠ 5 → G2 a = G a := fun a h4 h5 => (fr'2 a h4 h5).trans (fr1 a h4 h5)
  refine ax_aload_n (i := 1) dX5_climbs_12 rfl rfl ?_
  refine ax_getI dX5_climbs_13 fl_X5_23 rfl (OKs hZ rfl) ?_
  refine ax_top (congrArg Value.int ar2.2.2.2) ?_
  refine ax_isub dX5_climbs_16 ?_
  refine ax_iret dX5_climbs_17 rfl rfl (Nat.le_of_ble_eq_true rfl) (Nat.le_of_ble_eq_true rfl) ?_
  exact ⟨rfl, rfl, rfl, ar2, fr2⟩
theorem c0_1 {Z : Zt} {G : Gt} {L : Lt} {R : Nat × (Nat → Int32)} {num v : Int32} (hZ : OK Z) (ha : aS G R num v) (hb : R.1 ≤ 80) (x : Int32) : AC mX5_climbs 4 0 0 [.ref 18, .ref 4, .int x] Z G L (RP (.int (cl0V 1 num v x)) (AQ Z G L (cl0R 1 R) num v)) := by
  refine AC.intro (by decide +kernel) (Nat.le_of_ble_eq_true rfl) ?_
  refine ax_lv [(0, .ref 18), (1, .ref 4), (2, .int x)] ⟨rfl, rfl, rfl, trivial⟩ ?_
  refine ax_aload_n (i := 1) dX5_climbs_0 rfl rfl ?_
  refine ax_bipush (v := 11) dX5_climbs_1 (by decide) ?_
  refine ax_cVq0 dX5_climbs_3 lk_X5_7 (kb_begin hZ ha (show _ ≤ _ by first | omega | (simp only [rAdd, hisR, cl0R, cliR, te0R]; omega)) 11) rfl (OKs hZ rfl) ⟨_, rfl, rfl⟩ rfl (Nat.le_of_ble_eq_true rfl) (Nat.le_of_ble_eq_true rfl) (Nat.le_of_ble_eq_true rfl) (Nat.le_of_ble_eq_true rfl) ?_
  rintro _ G1 _ ⟨rfl, rfl, ar1, fr'1⟩
  have fr1 := fr'1
  refine ax_aload_n (i := 0) dX5_climbs_6 rfl rfl ?_
  refine ax_aload_n (i := 1) dX5_climbs_7 rfl rfl ?_
  refine ax_iload_n (i := 2) dX5_climbs_8 rfl rfl ?_
  refine ax_cUq dX5_climbs_9 lu_X5_17_X2 (h0_1 hZ ar1 (show _ ≤ _ by first | omega | (simp only [rAdd, hisR, cl0R, cliR, te0R]; omega)) x) rfl (OKs hZ rfl) ⟨_, rfl, rfl⟩ rfl (Nat.le_of_ble_eq_true rfl) (Nat.le_of_ble_eq_true rfl) (Nat.le_of_ble_eq_true rfl) (Nat.le_of_ble_eq_true rfl) ?_
  rintro _ G2 _ ⟨rfl, rfl, ar2, fr'2⟩
  have fr2 : ∀ a, a ≠ 4 → a ≠ 5 → G2 a = G a := fun a h4 h5 => (fr'2 a h4 h5).trans (fr1 a h4 h5)
  refine ax_aload_n (i := 1) dX5_climbs_12 rfl rfl ?_
  refine ax_getI dX5_climbs_13 fl_X5_23 rfl (OKs hZ rfl) ?_
  refine ax_top (congrArg Value.int ar2.2.2.2) ?_
  refine ax_isub dX5_climbs_16 ?_
  refine ax_iret dX5_climbs_17 rfl rfl (Nat.le_of_ble_eq_true rfl) (Nat.le_of_ble_eq_true rfl) ?_
  exact ⟨rfl, rfl, rfl, ar2, fr2⟩
theorem c_1 {Z : Zt} {G : Gt} {L : Lt} {R : Nat × (Nat → Int32)} {num v : Int32} (hZ : OK Z) (ha : aS G R num v) (hb : R.1 ≤ 79) (x : Int32) : AC mX2_climbs 5 0 0 [.ref 18, .ref 4, .int x] Z G L (RP (.int (cliV 1 num v x)) (AQ Z G L (cliR 1 R) num v)) := by
  refine AC.intro (by decide +kernel) (Nat.le_of_ble_eq_true rfl) ?_
  refine ax_lv [(0, .ref 18), (1, .ref 4), (2, .int x)] ⟨rfl, rfl, rfl, trivial⟩ ?_
  refine ax_aload_n (i := 1) dX2_climbs_0 rfl rfl ?_
  refine ax_bipush (v := 20) dX2_climbs_1 (by decide) ?_
  refine ax_cVq0 dX2_climbs_3 lk_X2_9 (kb_begin hZ ha (show _ ≤ _ by first | omega | (simp only [rAdd, hisR, cl0R, cliR, te0R]; omega)) 20) rfl (OKs hZ rfl) ⟨_, rfl, rfl⟩ rfl (Nat.le_of_ble_eq_true rfl) (Nat.le_of_ble_eq_true rfl) (Nat.le_of_ble_eq_true rfl) (Nat.le_of_ble_eq_true rfl) ?_
  rintro _ G1 _ ⟨rfl, rfl, ar1, fr'1⟩
  have fr1 := fr'1
  refine ax_aload_n (i := 0) dX2_climbs_6 rfl rfl ?_
  refine ax_aload_n (i := 1) dX2_climbs_7 rfl rfl ?_
  refine ax_iload_n (i := 2) dX2_climbs_8 rfl rfl ?_
  refine ax_cPq dX2_climbs_9 lp_X2_15 (c0_1 hZ ar1 (show _ ≤ _ by first | omega | (simp only [rAdd, hisR, cl0R, cliR, te0R]; omega)) x) rfl (OKs hZ rfl) rfl (Nat.le_of_ble_eq_true rfl) (Nat.le_of_ble_eq_true rfl) (Nat.le_of_ble_eq_true rfl) (Nat.le_of_ble_eq_true rfl) ?_
  rintro _ G2 _ ⟨rfl, rfl, ar2, fr'2⟩
  have fr2 : ∀ a, a ≠ 4 → a ≠ 5 → G2 a = G a := fun a h4 h5 => (fr'2 a h4 h5).trans (fr1 a h4 h5)
  refine ax_bipush (v := 6) dX2_climbs_12 (by decide) ?_
  refine ax_ixor dX2_climbs_14 ?_
  refine ax_iret dX2_climbs_15 rfl rfl (Nat.le_of_ble_eq_true rfl) (Nat.le_of_ble_eq_true rfl) ?_
  exact ⟨rfl, rfl, rfl, ar2, fr2⟩
theorem c0_2 {Z : Zt} {G : Gt} {L : Lt} {R : Nat × (Nat → Int32)} {num v : Int32} (hZ : OK Z) (ha : aS G R num v) (hb : R.1 ≤ 80) (x : Int32) : AC mX5_climbs 4 0 0 [.ref 19, .ref 4, .int x] Z G L (RP (.int (cl0V 2 num v x)) (AQ Z G L (cl0R 2 R) num v)) := by
  refine AC.intro (by decide +kernel) (Nat.le_of_ble_eq_true rfl) ?_
  refine ax_lv [(0, .ref 19), (1, .ref 4), (2, .int x)] ⟨rfl, rfl, rfl, trivial⟩ ?_
  refine ax_aload_n (i := 1) dX5_climbs_0 rfl rfl ?_
  refine ax_bipush (v := 11) dX5_climbs_1 (by decide) ?_
  refine ax_cVq0 dX5_climbs_3 lk_X5_7 (kb_begin hZ ha (show _ ≤ _ by first | omega | (simp only [rAdd, hisR, cl0R, cliR, te0R]; omega)) 11) rfl (OKs hZ rfl) ⟨_, rfl, rfl⟩ rfl (Nat.le_of_ble_eq_true rfl) (Nat.le_of_ble_eq_true rfl) (Nat.le_of_ble_eq_true rfl) (Nat.le_of_ble_eq_true rfl) ?_
  rintro _ G1 _ ⟨rfl, rfl, ar1, fr'1⟩
  have fr1 := fr'1
  refine ax_aload_n (i := 0) dX5_climbs_6 rfl rfl ?_
  refine ax_aload_n (i := 1) dX5_climbs_7 rfl rfl ?_
  refine ax_iload_n (i := 2) dX5_climbs_8 rfl rfl ?_
  refine ax_cUq dX5_climbs_9 lu_X5_17_X9 (h_2 hZ ar1 (show _ ≤ _ by first | omega | (simp only [rAdd, hisR, cl0R, cliR, te0R]; omega)) x) rfl (OKs hZ rfl) ⟨_, rfl, rfl⟩ rfl (Nat.le_of_ble_eq_true rfl) (Nat.le_of_ble_eq_true rfl) (Nat.le_of_ble_eq_true rfl) (Nat.le_of_ble_eq_true rfl) ?_
  rintro _ G2 _ ⟨rfl, rfl, ar2, fr'2⟩
  have fr2 : ∀ a, a ≠ 4 → a ≠ 5 → G2 a = G a := fun a h4 h5 => (fr'2 a h4 h5).trans (fr1 a h4 h5)
  refine ax_aload_n (i := 1) dX5_climbs_12 rfl rfl ?_
  refine ax_getI dX5_climbs_13 fl_X5_23 rfl (OKs hZ rfl) ?_
  refine ax_top (congrArg Value.int ar2.2.2.2) ?_
  refine ax_isub dX5_climbs_16 ?_
  refine ax_iret dX5_climbs_17 rfl rfl (Nat.le_of_ble_eq_true rfl) (Nat.le_of_ble_eq_true rfl) ?_
  exact ⟨rfl, rfl, rfl, ar2, fr2⟩
theorem c0_3 {Z : Zt} {G : Gt} {L : Lt} {R : Nat × (Nat → Int32)} {num v : Int32} (hZ : OK Z) (ha : aS G R num v) (hb : R.1 ≤ 80) (x : Int32) : AC mX5_climbs 4 0 0 [.ref 20, .ref 4, .int x] Z G L (RP (.int (cl0V 3 num v x)) (AQ Z G L (cl0R 3 R) num v)) := by
  refine AC.intro (by decide +kernel) (Nat.le_of_ble_eq_true rfl) ?_
  refine ax_lv [(0, .ref 20), (1, .ref 4), (2, .int x)] ⟨rfl, rfl, rfl, trivial⟩ ?_
  refine ax_aload_n (i := 1) dX5_climbs_0 rfl rfl ?_
  refine ax_bipush (v := 11) dX5_climbs_1 (by decide) ?_
  refine ax_cVq0 dX5_climbs_3 lk_X5_7 (kb_begin hZ ha (show _ ≤ _ by first | omega | (simp only [rAdd, hisR, cl0R, cliR, te0R]; omega)) 11) rfl (OKs hZ rfl) ⟨_, rfl, rfl⟩ rfl (Nat.le_of_ble_eq_true rfl) (Nat.le_of_ble_eq_true rfl) (Nat.le_of_ble_eq_true rfl) (Nat.le_of_ble_eq_true rfl) ?_
  rintro _ G1 _ ⟨rfl, rfl, ar1, fr'1⟩
  have fr1 := fr'1
  refine ax_aload_n (i := 0) dX5_climbs_6 rfl rfl ?_
  refine ax_aload_n (i := 1) dX5_climbs_7 rfl rfl ?_
  refine ax_iload_n (i := 2) dX5_climbs_8 rfl rfl ?_
  refine ax_cUq dX5_climbs_9 lu_X5_17_X3 (h0_3 hZ ar1 (show _ ≤ _ by first | omega | (simp only [rAdd, hisR, cl0R, cliR, te0R]; omega)) x) rfl (OKs hZ rfl) ⟨_, rfl, rfl⟩ rfl (Nat.le_of_ble_eq_true rfl) (Nat.le_of_ble_eq_true rfl) (Nat.le_of_ble_eq_true rfl) (Nat.le_of_ble_eq_true rfl) ?_
  rintro _ G2 _ ⟨rfl, rfl, ar2, fr'2⟩
  have fr2 : ∀ a, a ≠ 4 → a ≠ 5 → G2 a = G a := fun a h4 h5 => (fr'2 a h4 h5).trans (fr1 a h4 h5)
  refine ax_aload_n (i := 1) dX5_climbs_12 rfl rfl ?_
  refine ax_getI dX5_climbs_13 fl_X5_23 rfl (OKs hZ rfl) ?_
  refine ax_top (congrArg Value.int ar2.2.2.2) ?_
  refine ax_isub dX5_climbs_16 ?_
  refine ax_iret dX5_climbs_17 rfl rfl (Nat.le_of_ble_eq_true rfl) (Nat.le_of_ble_eq_true rfl) ?_
  exact ⟨rfl, rfl, rfl, ar2, fr2⟩
theorem c0_4 {Z : Zt} {G : Gt} {L : Lt} {R : Nat × (Nat → Int32)} {num v : Int32} (hZ : OK Z) (ha : aS G R num v) (hb : R.1 ≤ 80) (x : Int32) : AC mX5_climbs 4 0 0 [.ref 21, .ref 4, .int x] Z G L (RP (.int (cl0V 4 num v x)) (AQ Z G L (cl0R 4 R) num v)) := by
  refine AC.intro (by decide +kernel) (Nat.le_of_ble_eq_true rfl) ?_
  refine ax_lv [(0, .ref 21), (1, .ref 4), (2, .int x)] ⟨rfl, rfl, rfl, trivial⟩ ?_
  refine ax_aload_n (i := 1) dX5_climbs_0 rfl rfl ?_
  refine ax_bipush (v := 11) dX5_climbs_1 (by decide) ?_
  refine ax_cVq0 dX5_climbs_3 lk_X5_7 (kb_begin hZ ha (show _ ≤ _ by first | omega | (simp only [rAdd, hisR, cl0R, cliR, te0R]; omega)) 11) rfl (OKs hZ rfl) ⟨_, rfl, rfl⟩ rfl (Nat.le_of_ble_eq_true rfl) (Nat.le_of_ble_eq_true rfl) (Nat.le_of_ble_eq_true rfl) (Nat.le_of_ble_eq_true rfl) ?_
  rintro _ G1 _ ⟨rfl, rfl, ar1, fr'1⟩
  have fr1 := fr'1
  refine ax_aload_n (i := 0) dX5_climbs_6 rfl rfl ?_
  refine ax_aload_n (i := 1) dX5_climbs_7 rfl rfl ?_
  refine ax_iload_n (i := 2) dX5_climbs_8 rfl rfl ?_
  refine ax_cUq dX5_climbs_9 lu_X5_17_X1 (h_4 hZ ar1 (show _ ≤ _ by first | omega | (simp only [rAdd, hisR, cl0R, cliR, te0R]; omega)) x) rfl (OKs hZ rfl) ⟨_, rfl, rfl⟩ rfl (Nat.le_of_ble_eq_true rfl) (Nat.le_of_ble_eq_true rfl) (Nat.le_of_ble_eq_true rfl) (Nat.le_of_ble_eq_true rfl) ?_
  rintro _ G2 _ ⟨rfl, rfl, ar2, fr'2⟩
  have fr2 : ∀ a, a ≠ 4 → a ≠ 5 → G2 a = G a := fun a h4 h5 => (fr'2 a h4 h5).trans (fr1 a h4 h5)
  refine ax_aload_n (i := 1) dX5_climbs_12 rfl rfl ?_
  refine ax_getI dX5_climbs_13 fl_X5_23 rfl (OKs hZ rfl) ?_
  refine ax_top (congrArg Value.int ar2.2.2.2) ?_
  refine ax_isub dX5_climbs_16 ?_
  refine ax_iret dX5_climbs_17 rfl rfl (Nat.le_of_ble_eq_true rfl) (Nat.le_of_ble_eq_true rfl) ?_
  exact ⟨rfl, rfl, rfl, ar2, fr2⟩
theorem c2_4 {Z : Zt} {G : Gt} {L : Lt} {R : Nat × (Nat → Int32)} {num v : Int32} (hZ : OK Z) (ha : aS G R num v) (hb : R.1 ≤ 79) (x : Int32) : AC mX2_climbs 5 0 0 [.ref 21, .ref 4, .int x] Z G L (RP (.int (cl0V 4 num v x ^^^ 6)) (AQ Z G L (cl0R 4 (rAdd R 20)) num v)) := by
  refine AC.intro (by decide +kernel) (Nat.le_of_ble_eq_true rfl) ?_
  refine ax_lv [(0, .ref 21), (1, .ref 4), (2, .int x)] ⟨rfl, rfl, rfl, trivial⟩ ?_
  refine ax_aload_n (i := 1) dX2_climbs_0 rfl rfl ?_
  refine ax_bipush (v := 20) dX2_climbs_1 (by decide) ?_
  refine ax_cVq0 dX2_climbs_3 lk_X2_9 (kb_begin hZ ha (show _ ≤ _ by first | omega | (simp only [rAdd, hisR, cl0R, cliR, te0R]; omega)) 20) rfl (OKs hZ rfl) ⟨_, rfl, rfl⟩ rfl (Nat.le_of_ble_eq_true rfl) (Nat.le_of_ble_eq_true rfl) (Nat.le_of_ble_eq_true rfl) (Nat.le_of_ble_eq_true rfl) ?_
  rintro _ G1 _ ⟨rfl, rfl, ar1, fr'1⟩
  have fr1 := fr'1
  refine ax_aload_n (i := 0) dX2_climbs_6 rfl rfl ?_
  refine ax_aload_n (i := 1) dX2_climbs_7 rfl rfl ?_
  refine ax_iload_n (i := 2) dX2_climbs_8 rfl rfl ?_
  refine ax_cPq dX2_climbs_9 lp_X2_15 (c0_4 hZ ar1 (show _ ≤ _ by first | omega | (simp only [rAdd, hisR, cl0R, cliR, te0R]; omega)) x) rfl (OKs hZ rfl) rfl (Nat.le_of_ble_eq_true rfl) (Nat.le_of_ble_eq_true rfl) (Nat.le_of_ble_eq_true rfl) (Nat.le_of_ble_eq_true rfl) ?_
  rintro _ G2 _ ⟨rfl, rfl, ar2, fr'2⟩
  have fr2 : ∀ a, a ≠ 4 → a ≠ 5 → G2 a = G a := fun a h4 h5 => (fr'2 a h4 h5).trans (fr1 a h4 h5)
  refine ax_bipush (v := 6) dX2_climbs_12 (by decide) ?_
  refine ax_ixor dX2_climbs_14 ?_
  refine ax_iret dX2_climbs_15 rfl rfl (Nat.le_of_ble_eq_true rfl) (Nat.le_of_ble_eq_true rfl) ?_
  exact ⟨rfl, rfl, rfl, ar2, fr2⟩
theorem c_4 {Z : Zt} {G : Gt} {L : Lt} {R : Nat × (Nat → Int32)} {num v : Int32} (hZ : OK Z) (ha : aS G R num v) (hb : R.1 ≤ 78) (x : Int32) : AC mX1_climbs 6 0 0 [.ref 21, .ref 4, .int x] Z G L (RP (.int (cliV 4 num v x)) (AQ Z G L (cliR 4 R) num v)) := by
  refine AC.intro (by decide +kernel) (Nat.le_of_ble_eq_true rfl) ?_
  refine ax_lv [(0, .ref 21), (1, .ref 4), (2, .int x)] ⟨rfl, rfl, rfl, trivial⟩ ?_
  refine ax_aload_n (i := 1) dX1_climbs_0 rfl rfl ?_
  refine ax_bipush (v := 51) dX1_climbs_1 (by decide) ?_
  refine ax_cVq0 dX1_climbs_3 lk_X1_24 (kb_begin hZ ha (show _ ≤ _ by first | omega | (simp only [rAdd, hisR, cl0R, cliR, te0R]; omega)) 51) rfl (OKs hZ rfl) ⟨_, rfl, rfl⟩ rfl (Nat.le_of_ble_eq_true rfl) (Nat.le_of_ble_eq_true rfl) (Nat.le_of_ble_eq_true rfl) (Nat.le_of_ble_eq_true rfl) ?_
  rintro _ G1 _ ⟨rfl, rfl, ar1, fr'1⟩
  have fr1 := fr'1
  refine ax_aload_n (i := 0) dX1_climbs_6 rfl rfl ?_
  refine ax_aload_n (i := 1) dX1_climbs_7 rfl rfl ?_
  refine ax_iload_n (i := 2) dX1_climbs_8 rfl rfl ?_
  refine ax_iconst (v := 1) dX1_climbs_9 (by decide) ?_
  refine ax_iadd dX1_climbs_10 ?_
  refine ax_cPq dX1_climbs_11 lp_X1_34 (c2_4 hZ ar1 (show _ ≤ _ by first | omega | (simp only [rAdd, hisR, cl0R, cliR, te0R]; omega)) (x + 1)) rfl (OKs hZ rfl) rfl (Nat.le_of_ble_eq_true rfl) (Nat.le_of_ble_eq_true rfl) (Nat.le_of_ble_eq_true rfl) (Nat.le_of_ble_eq_true rfl) ?_
  rintro _ G2 _ ⟨rfl, rfl, ar2, fr'2⟩
  have fr2 : ∀ a, a ≠ 4 → a ≠ 5 → G2 a = G a := fun a h4 h5 => (fr'2 a h4 h5).trans (fr1 a h4 h5)
  refine ax_iret dX1_climbs_14 rfl rfl (Nat.le_of_ble_eq_true rfl) (Nat.le_of_ble_eq_true rfl) ?_
  exact ⟨rfl, rfl, rfl, ar2, fr2⟩
theorem c0_5 {Z : Zt} {G : Gt} {L : Lt} {R : Nat × (Nat → Int32)} {num v : Int32} (hZ : OK Z) (ha : aS G R num v) (hb : R.1 ≤ 80) (x : Int32) : AC mX5_climbs 4 0 0 [.ref 22, .ref 4, .int x] Z G L (RP (.int (cl0V 5 num v x)) (AQ Z G L (cl0R 5 R) num v)) := by
  refine AC.intro (by decide +kernel) (Nat.le_of_ble_eq_true rfl) ?_
  refine ax_lv [(0, .ref 22), (1, .ref 4), (2, .int x)] ⟨rfl, rfl, rfl, trivial⟩ ?_
  refine ax_aload_n (i := 1) dX5_climbs_0 rfl rfl ?_
  refine ax_bipush (v := 11) dX5_climbs_1 (by decide) ?_
  refine ax_cVq0 dX5_climbs_3 lk_X5_7 (kb_begin hZ ha (show _ ≤ _ by first | omega | (simp only [rAdd, hisR, cl0R, cliR, te0R]; omega)) 11) rfl (OKs hZ rfl) ⟨_, rfl, rfl⟩ rfl (Nat.le_of_ble_eq_true rfl) (Nat.le_of_ble_eq_true rfl) (Nat.le_of_ble_eq_true rfl) (Nat.le_of_ble_eq_true rfl) ?_
  rintro _ G1 _ ⟨rfl, rfl, ar1, fr'1⟩
  have fr1 := fr'1
  refine ax_aload_n (i := 0) dX5_climbs_6 rfl rfl ?_
  refine ax_aload_n (i := 1) dX5_climbs_7 rfl rfl ?_
  refine ax_iload_n (i := 2) dX5_climbs_8 rfl rfl ?_
  refine ax_cUq dX5_climbs_9 lu_X5_17_X8 (h_5 hZ ar1 (show _ ≤ _ by first | omega | (simp only [rAdd, hisR, cl0R, cliR, te0R]; omega)) x) rfl (OKs hZ rfl) ⟨_, rfl, rfl⟩ rfl (Nat.le_of_ble_eq_true rfl) (Nat.le_of_ble_eq_true rfl) (Nat.le_of_ble_eq_true rfl) (Nat.le_of_ble_eq_true rfl) ?_
  rintro _ G2 _ ⟨rfl, rfl, ar2, fr'2⟩
  have fr2 : ∀ a, a ≠ 4 → a ≠ 5 → G2 a = G a := fun a h4 h5 => (fr'2 a h4 h5).trans (fr1 a h4 h5)
  refine ax_aload_n (i := 1) dX5_climbs_12 rfl rfl ?_
  refine ax_getI dX5_climbs_13 fl_X5_23 rfl (OKs hZ rfl) ?_
  refine ax_top (congrArg Value.int ar2.2.2.2) ?_
  refine ax_isub dX5_climbs_16 ?_
  refine ax_iret dX5_climbs_17 rfl rfl (Nat.le_of_ble_eq_true rfl) (Nat.le_of_ble_eq_true rfl) ?_
  exact ⟨rfl, rfl, rfl, ar2, fr2⟩
theorem c0_6 {Z : Zt} {G : Gt} {L : Lt} {R : Nat × (Nat → Int32)} {num v : Int32} (hZ : OK Z) (ha : aS G R num v) (hb : R.1 ≤ 80) (x : Int32) : AC mX5_climbs 4 0 0 [.ref 23, .ref 4, .int x] Z G L (RP (.int (cl0V 6 num v x)) (AQ Z G L (cl0R 6 R) num v)) := by
  refine AC.intro (by decide +kernel) (Nat.le_of_ble_eq_true rfl) ?_
  refine ax_lv [(0, .ref 23), (1, .ref 4), (2, .int x)] ⟨rfl, rfl, rfl, trivial⟩ ?_
  refine ax_aload_n (i := 1) dX5_climbs_0 rfl rfl ?_
  refine ax_bipush (v := 11) dX5_climbs_1 (by decide) ?_
  refine ax_cVq0 dX5_climbs_3 lk_X5_7 (kb_begin hZ ha (show _ ≤ _ by first | omega | (simp only [rAdd, hisR, cl0R, cliR, te0R]; omega)) 11) rfl (OKs hZ rfl) ⟨_, rfl, rfl⟩ rfl (Nat.le_of_ble_eq_true rfl) (Nat.le_of_ble_eq_true rfl) (Nat.le_of_ble_eq_true rfl) (Nat.le_of_ble_eq_true rfl) ?_
  rintro _ G1 _ ⟨rfl, rfl, ar1, fr'1⟩
  have fr1 := fr'1
  refine ax_aload_n (i := 0) dX5_climbs_6 rfl rfl ?_
  refine ax_aload_n (i := 1) dX5_climbs_7 rfl rfl ?_
  refine ax_iload_n (i := 2) dX5_climbs_8 rfl rfl ?_
  refine ax_cUq dX5_climbs_9 lu_X5_17_X7 (h_6 hZ ar1 (show _ ≤ _ by first | omega | (simp only [rAdd, hisR, cl0R, cliR, te0R]; omega)) x) rfl (OKs hZ rfl) ⟨_, rfl, rfl⟩ rfl (Nat.le_of_ble_eq_true rfl) (Nat.le_of_ble_eq_true rfl) (Nat.le_of_ble_eq_true rfl) (Nat.le_of_ble_eq_true rfl) ?_
  rintro _ G2 _ ⟨rfl, rfl, ar2, fr'2⟩
  have fr2 : ∀ a, a ≠ 4 → a ≠ 5 → G2 a = G a := fun a h4 h5 => (fr'2 a h4 h5).trans (fr1 a h4 h5)
  refine ax_aload_n (i := 1) dX5_climbs_12 rfl rfl ?_
  refine ax_getI dX5_climbs_13 fl_X5_23 rfl (OKs hZ rfl) ?_
  refine ax_top (congrArg Value.int ar2.2.2.2) ?_
  refine ax_isub dX5_climbs_16 ?_
  refine ax_iret dX5_climbs_17 rfl rfl (Nat.le_of_ble_eq_true rfl) (Nat.le_of_ble_eq_true rfl) ?_
  exact ⟨rfl, rfl, rfl, ar2, fr2⟩
theorem c_6 {Z : Zt} {G : Gt} {L : Lt} {R : Nat × (Nat → Int32)} {num v : Int32} (hZ : OK Z) (ha : aS G R num v) (hb : R.1 ≤ 75) (x : Int32) : AC mX7_climbs 5 0 0 [.ref 23, .ref 4, .int x] Z G L (RP (.int (cliV 6 num v x)) (AQ Z G L (cliR 6 R) num v)) := by
  refine AC.intro (by decide +kernel) (Nat.le_of_ble_eq_true rfl) ?_
  refine ax_lv [(0, .ref 23), (1, .ref 4), (2, .int x)] ⟨rfl, rfl, rfl, trivial⟩ ?_
  refine ax_aload_n (i := 1) dX7_climbs_0 rfl rfl ?_
  refine ax_bipush (v := 70) dX7_climbs_1 (by decide) ?_
  refine ax_cVq0 dX7_climbs_3 lk_X7_19 (kb_begin hZ ha (show _ ≤ _ by first | omega | (simp only [rAdd, hisR, cl0R, cliR, te0R]; omega)) 70) rfl (OKs hZ rfl) ⟨_, rfl, rfl⟩ rfl (Nat.le_of_ble_eq_true rfl) (Nat.le_of_ble_eq_true rfl) (Nat.le_of_ble_eq_true rfl) (Nat.le_of_ble_eq_true rfl) ?_
  rintro _ G1 _ ⟨rfl, rfl, ar1, fr'1⟩
  have fr1 := fr'1
  refine ax_aload_n (i := 0) dX7_climbs_6 rfl rfl ?_
  refine ax_aload_n (i := 1) dX7_climbs_7 rfl rfl ?_
  refine ax_iload_n (i := 2) dX7_climbs_8 rfl rfl ?_
  refine ax_cPq dX7_climbs_9 lp_X7_25 (c0_6 hZ ar1 (show _ ≤ _ by first | omega | (simp only [rAdd, hisR, cl0R, cliR, te0R]; omega)) x) rfl (OKs hZ rfl) rfl (Nat.le_of_ble_eq_true rfl) (Nat.le_of_ble_eq_true rfl) (Nat.le_of_ble_eq_true rfl) (Nat.le_of_ble_eq_true rfl) ?_
  rintro _ G2 _ ⟨rfl, rfl, ar2, fr'2⟩
  have fr2 : ∀ a, a ≠ 4 → a ≠ 5 → G2 a = G a := fun a h4 h5 => (fr'2 a h4 h5).trans (fr1 a h4 h5)
  refine ax_aload_n (i := 0) dX7_climbs_12 rfl rfl ?_
  refine ax_aload_n (i := 1) dX7_climbs_13 rfl rfl ?_
  refine ax_iconst (v := 2) dX7_climbs_14 (by decide) ?_
  refine ax_cPq dX7_climbs_15 lp_X7_29 (h0_6 hZ ar2 (show _ ≤ _ by first | omega | (simp only [rAdd, hisR, cl0R, cliR, te0R]; omega)) 2) rfl (OKs hZ rfl) rfl (Nat.le_of_ble_eq_true rfl) (Nat.le_of_ble_eq_true rfl) (Nat.le_of_ble_eq_true rfl) (Nat.le_of_ble_eq_true rfl) ?_
  rintro _ G3 _ ⟨rfl, rfl, ar3, fr'3⟩
  have fr3 : ∀ a, a ≠ 4 → a ≠ 5 → G3 a = G a := fun a h4 h5 => (fr'3 a h4 h5).trans (fr2 a h4 h5)
  refine ax_iadd dX7_climbs_18 ?_
  refine ax_iret dX7_climbs_19 rfl rfl (Nat.le_of_ble_eq_true rfl) (Nat.le_of_ble_eq_true rfl) ?_
  exact ⟨rfl, rfl, rfl, ar3, fr3⟩
theorem t0_0 {Z : Zt} {G : Gt} {L : Lt} {R : Nat × (Nat → Int32)} {num v : Int32} (hZ : OK Z) (ha : aS G R num v) (hb : R.1 ≤ 70) (x : Int32) : AC mX5_tells 7 0 0 [.ref 17, .ref 4, .int x] Z G L (RP (.int (te0V 0 num v x)) (AQ Z G L (te0R 0 R) num v)) := by
  refine AC.intro (by decide +kernel) (Nat.le_of_ble_eq_true rfl) ?_
  refine ax_lv [(0, .ref 17), (1, .ref 4), (2, .int x)] ⟨rfl, rfl, rfl, trivial⟩ ?_
  refine ax_aload_n (i := 1) dX5_tells_0 rfl rfl ?_
  refine ax_bipush (v := 12) dX5_tells_1 (by decide) ?_
  refine ax_cVq0 dX5_tells_3 lk_X5_7 (kb_begin hZ ha (show _ ≤ _ by first | omega | (simp only [rAdd, hisR, cl0R, cliR, te0R]; omega)) 12) rfl (OKs hZ rfl) ⟨_, rfl, rfl⟩ rfl (Nat.le_of_ble_eq_true rfl) (Nat.le_of_ble_eq_true rfl) (Nat.le_of_ble_eq_true rfl) (Nat.le_of_ble_eq_true rfl) ?_
  rintro _ G1 _ ⟨rfl, rfl, ar1, fr'1⟩
  have fr1 := fr'1
  refine ax_aload_n (i := 0) dX5_tells_6 rfl rfl ?_
  refine ax_aload_n (i := 1) dX5_tells_7 rfl rfl ?_
  refine ax_iload_n (i := 2) dX5_tells_8 rfl rfl ?_
  refine ax_cUq dX5_tells_9 lu_X5_26_X5 (c0_0 hZ ar1 (show _ ≤ _ by first | omega | (simp only [rAdd, hisR, cl0R, cliR, te0R]; omega)) x) rfl (OKs hZ rfl) ⟨_, rfl, rfl⟩ rfl (Nat.le_of_ble_eq_true rfl) (Nat.le_of_ble_eq_true rfl) (Nat.le_of_ble_eq_true rfl) (Nat.le_of_ble_eq_true rfl) ?_
  rintro _ G2 _ ⟨rfl, rfl, ar2, fr'2⟩
  have fr2 : ∀ a, a ≠ 4 → a ≠ 5 → G2 a = G a := fun a h4 h5 => (fr'2 a h4 h5).trans (fr1 a h4 h5)
  refine ax_iconst (v := 2) dX5_tells_12 (by decide) ?_
  refine ax_imul dX5_tells_13 ?_
  refine ax_iret dX5_tells_14 rfl rfl (Nat.le_of_ble_eq_true rfl) (Nat.le_of_ble_eq_true rfl) ?_
  exact ⟨rfl, rfl, rfl, ar2, fr2⟩
theorem t0_1 {Z : Zt} {G : Gt} {L : Lt} {R : Nat × (Nat → Int32)} {num v : Int32} (hZ : OK Z) (ha : aS G R num v) (hb : R.1 ≤ 70) (x : Int32) : AC mX5_tells 7 0 0 [.ref 18, .ref 4, .int x] Z G L (RP (.int (te0V 1 num v x)) (AQ Z G L (te0R 1 R) num v)) := by
  refine AC.intro (by decide +kernel) (Nat.le_of_ble_eq_true rfl) ?_
  refine ax_lv [(0, .ref 18), (1, .ref 4), (2, .int x)] ⟨rfl, rfl, rfl, trivial⟩ ?_
  refine ax_aload_n (i := 1) dX5_tells_0 rfl rfl ?_
  refine ax_bipush (v := 12) dX5_tells_1 (by decide) ?_
  refine ax_cVq0 dX5_tells_3 lk_X5_7 (kb_begin hZ ha (show _ ≤ _ by first | omega | (simp only [rAdd, hisR, cl0R, cliR, te0R]; omega)) 12) rfl (OKs hZ rfl) ⟨_, rfl, rfl⟩ rfl (Nat.le_of_ble_eq_true rfl) (Nat.le_of_ble_eq_true rfl) (Nat.le_of_ble_eq_true rfl) (Nat.le_of_ble_eq_true rfl) ?_
  rintro _ G1 _ ⟨rfl, rfl, ar1, fr'1⟩
  have fr1 := fr'1
  refine ax_aload_n (i := 0) dX5_tells_6 rfl rfl ?_
  refine ax_aload_n (i := 1) dX5_tells_7 rfl rfl ?_
  refine ax_iload_n (i := 2) dX5_tells_8 rfl rfl ?_
  refine ax_cUq dX5_tells_9 lu_X5_26_X2 (c_1 hZ ar1 (show _ ≤ _ by first | omega | (simp only [rAdd, hisR, cl0R, cliR, te0R]; omega)) x) rfl (OKs hZ rfl) ⟨_, rfl, rfl⟩ rfl (Nat.le_of_ble_eq_true rfl) (Nat.le_of_ble_eq_true rfl) (Nat.le_of_ble_eq_true rfl) (Nat.le_of_ble_eq_true rfl) ?_
  rintro _ G2 _ ⟨rfl, rfl, ar2, fr'2⟩
  have fr2 : ∀ a, a ≠ 4 → a ≠ 5 → G2 a = G a := fun a h4 h5 => (fr'2 a h4 h5).trans (fr1 a h4 h5)
  refine ax_iconst (v := 2) dX5_tells_12 (by decide) ?_
  refine ax_imul dX5_tells_13 ?_
  refine ax_iret dX5_tells_14 rfl rfl (Nat.le_of_ble_eq_true rfl) (Nat.le_of_ble_eq_true rfl) ?_
  exact ⟨rfl, rfl, rfl, ar2, fr2⟩
theorem t0_2 {Z : Zt} {G : Gt} {L : Lt} {R : Nat × (Nat → Int32)} {num v : Int32} (hZ : OK Z) (ha : aS G R num v) (hb : R.1 ≤ 70) (x : Int32) : AC mX5_tells 7 0 0 [.ref 19, .ref 4, .int x] Z G L (RP (.int (te0V 2 num v x)) (AQ Z G L (te0R 2 R) num v)) := by
  refine AC.intro (by decide +kernel) (Nat.le_of_ble_eq_true rfl) ?_
  refine ax_lv [(0, .ref 19), (1, .ref 4), (2, .int x)] ⟨rfl, rfl, rfl, trivial⟩ ?_
  refine ax_aload_n (i := 1) dX5_tells_0 rfl rfl ?_
  refine ax_bipush (v := 12) dX5_tells_1 (by decide) ?_
  refine ax_cVq0 dX5_tells_3 lk_X5_7 (kb_begin hZ ha (show _ ≤ _ by first | omega | (simp only [rAdd, hisR, cl0R, cliR, te0R]; omega)) 12) rfl (OKs hZ rfl) ⟨_, rfl, rfl⟩ rfl (Nat.le_of_ble_eq_true rfl) (Nat.le_of_ble_eq_true rfl) (Nat.le_of_ble_eq_true rfl) (Nat.le_of_ble_eq_true rfl) ?_
  rintro _ G1 _ ⟨rfl, rfl, ar1, fr'1⟩
  have fr1 := fr'1
  refine ax_aload_n (i := 0) dX5_tells_6 rfl rfl ?_
  refine ax_aload_n (i := 1) dX5_tells_7 rfl rfl ?_
  refine ax_iload_n (i := 2) dX5_tells_8 rfl rfl ?_
  refine ax_cUq dX5_tells_9 lu_X5_26_X9 (c0_2 hZ ar1 (show _ ≤ _ by first | omega | (simp only [rAdd, hisR, cl0R, cliR, te0R]; omega)) x) rfl (OKs hZ rfl) ⟨_, rfl, rfl⟩ rfl (Nat.le_of_ble_eq_true rfl) (Nat.le_of_ble_eq_true rfl) (Nat.le_of_ble_eq_true rfl) (Nat.le_of_ble_eq_true rfl) ?_
  rintro _ G2 _ ⟨rfl, rfl, ar2, fr'2⟩
  have fr2 : ∀ a, a ≠ 4 → a ≠ 5 → G2 a = G a := fun a h4 h5 => (fr'2 a h4 h5).trans (fr1 a h4 h5)
  refine ax_iconst (v := 2) dX5_tells_12 (by decide) ?_
  refine ax_imul dX5_tells_13 ?_
  refine ax_iret dX5_tells_14 rfl rfl (Nat.le_of_ble_eq_true rfl) (Nat.le_of_ble_eq_true rfl) ?_
  exact ⟨rfl, rfl, rfl, ar2, fr2⟩
theorem t0_3 {Z : Zt} {G : Gt} {L : Lt} {R : Nat × (Nat → Int32)} {num v : Int32} (hZ : OK Z) (ha : aS G R num v) (hb : R.1 ≤ 70) (x : Int32) : AC mX5_tells 7 0 0 [.ref 20, .ref 4, .int x] Z G L (RP (.int (te0V 3 num v x)) (AQ Z G L (te0R 3 R) num v)) := by
  refine AC.intro (by decide +kernel) (Nat.le_of_ble_eq_true rfl) ?_
  refine ax_lv [(0, .ref 20), (1, .ref 4), (2, .int x)] ⟨rfl, rfl, rfl, trivial⟩ ?_
  refine ax_aload_n (i := 1) dX5_tells_0 rfl rfl ?_
  refine ax_bipush (v := 12) dX5_tells_1 (by decide) ?_
  refine ax_cVq0 dX5_tells_3 lk_X5_7 (kb_begin hZ ha (show _ ≤ _ by first | omega | (simp only [rAdd, hisR, cl0R, cliR, te0R]; omega)) 12) rfl (OKs hZ rfl) ⟨_, rfl, rfl⟩ rfl (Nat.le_of_ble_eq_true rfl) (Nat.le_of_ble_eq_true rfl) (Nat.le_of_ble_eq_true rfl) (Nat.le_of_ble_eq_true rfl) ?_
  rintro _ G1 _ ⟨rfl, rfl, ar1, fr'1⟩
  have fr1 := fr'1
  refine ax_aload_n (i := 0) dX5_tells_6 rfl rfl ?_
  refine ax_aload_n (i := 1) dX5_tells_7 rfl rfl ?_
  refine ax_iload_n (i := 2) dX5_tells_8 rfl rfl ?_
  refine ax_cUq dX5_tells_9 lu_X5_26_X3 (c0_3 hZ ar1 (show _ ≤ _ by first | omega | (simp only [rAdd, hisR, cl0R, cliR, te0R]; omega)) x) rfl (OKs hZ rfl) ⟨_, rfl, rfl⟩ rfl (Nat.le_of_ble_eq_true rfl) (Nat.le_of_ble_eq_true rfl) (Nat.le_of_ble_eq_true rfl) (Nat.le_of_ble_eq_true rfl) ?_
  rintro _ G2 _ ⟨rfl, rfl, ar2, fr'2⟩
  have fr2 : ∀ a, a ≠ 4 → a ≠ 5 → G2 a = G a := fun a h4 h5 => (fr'2 a h4 h5).trans (fr1 a h4 h5)
  refine ax_iconst (v := 2) dX5_tells_12 (by decide) ?_
  refine ax_imul dX5_tells_13 ?_
  refine ax_iret dX5_tells_14 rfl rfl (Nat.le_of_ble_eq_true rfl) (Nat.le_of_ble_eq_true rfl) ?_
  exact ⟨rfl, rfl, rfl, ar2, fr2⟩
theorem t_3 {Z : Zt} {G : Gt} {L : Lt} {R : Nat × (Nat → Int32)} {num v : Int32} (hZ : OK Z) (ha : aS G R num v) (hb : R.1 ≤ 60) (x : Int32) : AC mX3_tells 8 0 0 [.ref 20, .ref 4, .int x] Z G L (RP (.int (telV 3 num v x)) (AQ Z G L (telR 3 R) num v)) := by
  refine AC.intro (by decide +kernel) (Nat.le_of_ble_eq_true rfl) ?_
  refine ax_lv [(0, .ref 20), (1, .ref 4), (2, .int x)] ⟨rfl, rfl, rfl, trivial⟩ ?_
  refine ax_aload_n (i := 1) dX3_tells_0 rfl rfl ?_
  refine ax_bipush (v := 40) dX3_tells_1 (by decide) ?_
  refine ax_cVq0 dX3_tells_3 lk_X3_15 (kb_begin hZ ha (show _ ≤ _ by first | omega | (simp only [rAdd, hisR, cl0R, cliR, te0R]; omega)) 40) rfl (OKs hZ rfl) ⟨_, rfl, rfl⟩ rfl (Nat.le_of_ble_eq_true rfl) (Nat.le_of_ble_eq_true rfl) (Nat.le_of_ble_eq_true rfl) (Nat.le_of_ble_eq_true rfl) ?_
  rintro _ G1 _ ⟨rfl, rfl, ar1, fr'1⟩
  have fr1 := fr'1
  refine ax_aload_n (i := 0) dX3_tells_6 rfl rfl ?_
  refine ax_aload_n (i := 1) dX3_tells_7 rfl rfl ?_
  refine ax_iload_n (i := 2) dX3_tells_8 rfl rfl ?_
  refine ax_cPq dX3_tells_9 lp_X3_21 (t0_3 hZ ar1 (show _ ≤ _ by first | omega | (simp only [rAdd, hisR, cl0R, cliR, te0R]; omega)) x) rfl (OKs hZ rfl) rfl (Nat.le_of_ble_eq_true rfl) (Nat.le_of_ble_eq_true rfl) (Nat.le_of_ble_eq_true rfl) (Nat.le_of_ble_eq_true rfl) ?_
  rintro _ G2 _ ⟨rfl, rfl, ar2, fr'2⟩
  have fr2 : ∀ a, a ≠ 4 → a ≠ 5 → G2 a = G a := fun a h4 h5 => (fr'2 a h4 h5).trans (fr1 a h4 h5)
  refine ax_aload_n (i := 0) dX3_tells_12 rfl rfl ?_
  refine ax_aload_n (i := 1) dX3_tells_13 rfl rfl ?_
  refine ax_iconst (v := 1) dX3_tells_14 (by decide) ?_
  refine ax_cUq dX3_tells_15 lu_X3_25_X3 (c0_3 hZ ar2 (show _ ≤ _ by first | omega | (simp only [rAdd, hisR, cl0R, cliR, te0R]; omega)) 1) rfl (OKs hZ rfl) ⟨_, rfl, rfl⟩ rfl (Nat.le_of_ble_eq_true rfl) (Nat.le_of_ble_eq_true rfl) (Nat.le_of_ble_eq_true rfl) (Nat.le_of_ble_eq_true rfl) ?_
  rintro _ G3 _ ⟨rfl, rfl, ar3, fr'3⟩
  have fr3 : ∀ a, a ≠ 4 → a ≠ 5 → G3 a = G a := fun a h4 h5 => (fr'3 a h4 h5).trans (fr2 a h4 h5)
  refine ax_iadd dX3_tells_18 ?_
  refine ax_iret dX3_tells_19 rfl rfl (Nat.le_of_ble_eq_true rfl) (Nat.le_of_ble_eq_true rfl) ?_
  exact ⟨rfl, rfl, rfl, ar3, fr3⟩
theorem t0_4 {Z : Zt} {G : Gt} {L : Lt} {R : Nat × (Nat → Int32)} {num v : Int32} (hZ : OK Z) (ha : aS G R num v) (hb : R.1 ≤ 70) (x : Int32) : AC mX5_tells 7 0 0 [.ref 21, .ref 4, .int x] Z G L (RP (.int (te0V 4 num v x)) (AQ Z G L (te0R 4 R) num v)) := by
  refine AC.intro (by decide +kernel) (Nat.le_of_ble_eq_true rfl) ?_
  refine ax_lv [(0, .ref 21), (1, .ref 4), (2, .int x)] ⟨rfl, rfl, rfl, trivial⟩ ?_
  refine ax_aload_n (i := 1) dX5_tells_0 rfl rfl ?_
  refine ax_bipush (v := 12) dX5_tells_1 (by decide) ?_
  refine ax_cVq0 dX5_tells_3 lk_X5_7 (kb_begin hZ ha (show _ ≤ _ by first | omega | (simp only [rAdd, hisR, cl0R, cliR, te0R]; omega)) 12) rfl (OKs hZ rfl) ⟨_, rfl, rfl⟩ rfl (Nat.le_of_ble_eq_true rfl) (Nat.le_of_ble_eq_true rfl) (Nat.le_of_ble_eq_true rfl) (Nat.le_of_ble_eq_true rfl) ?_
  rintro _ G1 _ ⟨rfl, rfl, ar1, fr'1⟩
  have fr1 := fr'1
  refine ax_aload_n (i := 0) dX5_tells_6 rfl rfl ?_
  refine ax_aload_n (i := 1) dX5_tells_7 rfl rfl ?_
  refine ax_iload_n (i := 2) dX5_tells_8 rfl rfl ?_
  refine ax_cUq dX5_tells_9 lu_X5_26_X1 (c_4 hZ ar1 (show _ ≤ _ by first | omega | (simp only [rAdd, hisR, cl0R, cliR, te0R]; omega)) x) rfl (OKs hZ rfl) ⟨_, rfl, rfl⟩ rfl (Nat.le_of_ble_eq_true rfl) (Nat.le_of_ble_eq_true rfl) (Nat.le_of_ble_eq_true rfl) (Nat.le_of_ble_eq_true rfl) ?_
  rintro _ G2 _ ⟨rfl, rfl, ar2, fr'2⟩
  have fr2 : ∀ a, a ≠ 4 → a ≠ 5 → G2 a = G a := fun a h4 h5 => (fr'2 a h4 h5).trans (fr1 a h4 h5)
  refine ax_iconst (v := 2) dX5_tells_12 (by decide) ?_
  refine ax_imul dX5_tells_13 ?_
  refine ax_iret dX5_tells_14 rfl rfl (Nat.le_of_ble_eq_true rfl) (Nat.le_of_ble_eq_true rfl) ?_
  exact ⟨rfl, rfl, rfl, ar2, fr2⟩
theorem t0_5 {Z : Zt} {G : Gt} {L : Lt} {R : Nat × (Nat → Int32)} {num v : Int32} (hZ : OK Z) (ha : aS G R num v) (hb : R.1 ≤ 70) (x : Int32) : AC mX5_tells 7 0 0 [.ref 22, .ref 4, .int x] Z G L (RP (.int (te0V 5 num v x)) (AQ Z G L (te0R 5 R) num v)) := by
  refine AC.intro (by decide +kernel) (Nat.le_of_ble_eq_true rfl) ?_
  refine ax_lv [(0, .ref 22), (1, .ref 4), (2, .int x)] ⟨rfl, rfl, rfl, trivial⟩ ?_
  refine ax_aload_n (i := 1) dX5_tells_0 rfl rfl ?_
  refine ax_bipush (v := 12) dX5_tells_1 (by decide) ?_
  refine ax_cVq0 dX5_tells_3 lk_X5_7 (kb_begin hZ ha (show _ ≤ _ by first | omega | (simp only [rAdd, hisR, cl0R, cliR, te0R]; omega)) 12) rfl (OKs hZ rfl) ⟨_, rfl, rfl⟩ rfl (Nat.le_of_ble_eq_true rfl) (Nat.le_of_ble_eq_true rfl) (Nat.le_of_ble_eq_true rfl) (Nat.le_of_ble_eq_true rfl) ?_
  rintro _ G1 _ ⟨rfl, rfl, ar1, fr'1⟩
  have fr1 := fr'1
  refine ax_aload_n (i := 0) dX5_tells_6 rfl rfl ?_
  refine ax_aload_n (i := 1) dX5_tells_7 rfl rfl ?_
  refine ax_iload_n (i := 2) dX5_tells_8 rfl rfl ?_
  refine ax_cUq dX5_tells_9 lu_X5_26_X8 (c0_5 hZ ar1 (show _ ≤ _ by first | omega | (simp only [rAdd, hisR, cl0R, cliR, te0R]; omega)) x) rfl (OKs hZ rfl) ⟨_, rfl, rfl⟩ rfl (Nat.le_of_ble_eq_true rfl) (Nat.le_of_ble_eq_true rfl) (Nat.le_of_ble_eq_true rfl) (Nat.le_of_ble_eq_true rfl) ?_
  rintro _ G2 _ ⟨rfl, rfl, ar2, fr'2⟩
  have fr2 : ∀ a, a ≠ 4 → a ≠ 5 → G2 a = G a := fun a h4 h5 => (fr'2 a h4 h5).trans (fr1 a h4 h5)
  refine ax_iconst (v := 2) dX5_tells_12 (by decide) ?_
  refine ax_imul dX5_tells_13 ?_
  refine ax_iret dX5_tells_14 rfl rfl (Nat.le_of_ble_eq_true rfl) (Nat.le_of_ble_eq_true rfl) ?_
  exact ⟨rfl, rfl, rfl, ar2, fr2⟩
theorem t_5 {Z : Zt} {G : Gt} {L : Lt} {R : Nat × (Nat → Int32)} {num v : Int32} (hZ : OK Z) (ha : aS G R num v) (hb : R.1 ≤ 60) (x : Int32) : AC mX8_tells 8 0 0 [.ref 22, .ref 4, .int x] Z G L (RP (.int (telV 5 num v x)) (AQ Z G L (telR 5 R) num v)) := by
  refine AC.intro (by decide +kernel) (Nat.le_of_ble_eq_true rfl) ?_
  refine ax_lv [(0, .ref 22), (1, .ref 4), (2, .int x)] ⟨rfl, rfl, rfl, trivial⟩ ?_
  refine ax_aload_n (i := 1) dX8_tells_0 rfl rfl ?_
  refine ax_bipush (v := 60) dX8_tells_1 (by decide) ?_
  refine ax_cVq0 dX8_tells_3 lk_X8_17 (kb_begin hZ ha (show _ ≤ _ by first | omega | (simp only [rAdd, hisR, cl0R, cliR, te0R]; omega)) 60) rfl (OKs hZ rfl) ⟨_, rfl, rfl⟩ rfl (Nat.le_of_ble_eq_true rfl) (Nat.le_of_ble_eq_true rfl) (Nat.le_of_ble_eq_true rfl) (Nat.le_of_ble_eq_true rfl) ?_
  rintro _ G1 _ ⟨rfl, rfl, ar1, fr'1⟩
  have fr1 := fr'1
  refine ax_aload_n (i := 0) dX8_tells_6 rfl rfl ?_
  refine ax_aload_n (i := 1) dX8_tells_7 rfl rfl ?_
  refine ax_iload_n (i := 2) dX8_tells_8 rfl rfl ?_
  refine ax_aload_n (i := 1) dX8_tells_9 rfl rfl ?_
  refine ax_getI dX8_tells_10 fl_X8_23 rfl (OKs hZ rfl) ?_
  refine ax_top (congrArg Value.int ar1.2.2.1) ?_
  refine ax_isub dX8_tells_13 ?_
  refine ax_cPq dX8_tells_14 lp_X8_26 (t0_5 hZ ar1 (show _ ≤ _ by first | omega | (simp only [rAdd, hisR, cl0R, cliR, te0R]; omega)) (x - num)) rfl (OKs hZ rfl) rfl (Nat.le_of_ble_eq_true rfl) (Nat.le_of_ble_eq_true rfl) (Nat.le_of_ble_eq_true rfl) (Nat.le_of_ble_eq_true rfl) ?_
  rintro _ G2 _ ⟨rfl, rfl, ar2, fr'2⟩
  have fr2 : ∀ a, a ≠ 4 → a ≠ 5 → G2 a = G a := fun a h4 h5 => (fr'2 a h4 h5).trans (fr1 a h4 h5)
  refine ax_iret dX8_tells_17 rfl rfl (Nat.le_of_ble_eq_true rfl) (Nat.le_of_ble_eq_true rfl) ?_
  exact ⟨rfl, rfl, rfl, ar2, fr2⟩
theorem t0_6 {Z : Zt} {G : Gt} {L : Lt} {R : Nat × (Nat → Int32)} {num v : Int32} (hZ : OK Z) (ha : aS G R num v) (hb : R.1 ≤ 70) (x : Int32) : AC mX5_tells 7 0 0 [.ref 23, .ref 4, .int x] Z G L (RP (.int (te0V 6 num v x)) (AQ Z G L (te0R 6 R) num v)) := by
  refine AC.intro (by decide +kernel) (Nat.le_of_ble_eq_true rfl) ?_
  refine ax_lv [(0, .ref 23), (1, .ref 4), (2, .int x)] ⟨rfl, rfl, rfl, trivial⟩ ?_
  refine ax_aload_n (i := 1) dX5_tells_0 rfl rfl ?_
  refine ax_bipush (v := 12) dX5_tells_1 (by decide) ?_
  refine ax_cVq0 dX5_tells_3 lk_X5_7 (kb_begin hZ ha (show _ ≤ _ by first | omega | (simp only [rAdd, hisR, cl0R, cliR, te0R]; omega)) 12) rfl (OKs hZ rfl) ⟨_, rfl, rfl⟩ rfl (Nat.le_of_ble_eq_true rfl) (Nat.le_of_ble_eq_true rfl) (Nat.le_of_ble_eq_true rfl) (Nat.le_of_ble_eq_true rfl) ?_
  rintro _ G1 _ ⟨rfl, rfl, ar1, fr'1⟩
  have fr1 := fr'1
  refine ax_aload_n (i := 0) dX5_tells_6 rfl rfl ?_
  refine ax_aload_n (i := 1) dX5_tells_7 rfl rfl ?_
  refine ax_iload_n (i := 2) dX5_tells_8 rfl rfl ?_
  refine ax_cUq dX5_tells_9 lu_X5_26_X7 (c_6 hZ ar1 (show _ ≤ _ by first | omega | (simp only [rAdd, hisR, cl0R, cliR, te0R]; omega)) x) rfl (OKs hZ rfl) ⟨_, rfl, rfl⟩ rfl (Nat.le_of_ble_eq_true rfl) (Nat.le_of_ble_eq_true rfl) (Nat.le_of_ble_eq_true rfl) (Nat.le_of_ble_eq_true rfl) ?_
  rintro _ G2 _ ⟨rfl, rfl, ar2, fr'2⟩
  have fr2 : ∀ a, a ≠ 4 → a ≠ 5 → G2 a = G a := fun a h4 h5 => (fr'2 a h4 h5).trans (fr1 a h4 h5)
  refine ax_iconst (v := 2) dX5_tells_12 (by decide) ?_
  refine ax_imul dX5_tells_13 ?_
  refine ax_iret dX5_tells_14 rfl rfl (Nat.le_of_ble_eq_true rfl) (Nat.le_of_ble_eq_true rfl) ?_
  exact ⟨rfl, rfl, rfl, ar2, fr2⟩
theorem t_6 {Z : Zt} {G : Gt} {L : Lt} {R : Nat × (Nat → Int32)} {num v : Int32} (hZ : OK Z) (ha : aS G R num v) (hb : R.1 ≤ 60) (x : Int32) : AC mX3_tells 8 0 0 [.ref 23, .ref 4, .int x] Z G L (RP (.int (telV 6 num v x)) (AQ Z G L (telR 6 R) num v)) := by
  refine AC.intro (by decide +kernel) (Nat.le_of_ble_eq_true rfl) ?_
  refine ax_lv [(0, .ref 23), (1, .ref 4), (2, .int x)] ⟨rfl, rfl, rfl, trivial⟩ ?_
  refine ax_aload_n (i := 1) dX3_tells_0 rfl rfl ?_
  refine ax_bipush (v := 40) dX3_tells_1 (by decide) ?_
  refine ax_cVq0 dX3_tells_3 lk_X3_15 (kb_begin hZ ha (show _ ≤ _ by first | omega | (simp only [rAdd, hisR, cl0R, cliR, te0R]; omega)) 40) rfl (OKs hZ rfl) ⟨_, rfl, rfl⟩ rfl (Nat.le_of_ble_eq_true rfl) (Nat.le_of_ble_eq_true rfl) (Nat.le_of_ble_eq_true rfl) (Nat.le_of_ble_eq_true rfl) ?_
  rintro _ G1 _ ⟨rfl, rfl, ar1, fr'1⟩
  have fr1 := fr'1
  refine ax_aload_n (i := 0) dX3_tells_6 rfl rfl ?_
  refine ax_aload_n (i := 1) dX3_tells_7 rfl rfl ?_
  refine ax_iload_n (i := 2) dX3_tells_8 rfl rfl ?_
  refine ax_cPq dX3_tells_9 lp_X3_21 (t0_6 hZ ar1 (show _ ≤ _ by first | omega | (simp only [rAdd, hisR, cl0R, cliR, te0R]; omega)) x) rfl (OKs hZ rfl) rfl (Nat.le_of_ble_eq_true rfl) (Nat.le_of_ble_eq_true rfl) (Nat.le_of_ble_eq_true rfl) (Nat.le_of_ble_eq_true rfl) ?_
  rintro _ G2 _ ⟨rfl, rfl, ar2, fr'2⟩
  have fr2 : ∀ a, a ≠ 4 → a ≠ 5 → G2 a = G a := fun a h4 h5 => (fr'2 a h4 h5).trans (fr1 a h4 h5)
  refine ax_aload_n (i := 0) dX3_tells_12 rfl rfl ?_
  refine ax_aload_n (i := 1) dX3_tells_13 rfl rfl ?_
  refine ax_iconst (v := 1) dX3_tells_14 (by decide) ?_
  refine ax_cUq dX3_tells_15 lu_X3_25_X7 (c_6 hZ ar2 (show _ ≤ _ by first | omega | (simp only [rAdd, hisR, cl0R, cliR, te0R]; omega)) 1) rfl (OKs hZ rfl) ⟨_, rfl, rfl⟩ rfl (Nat.le_of_ble_eq_true rfl) (Nat.le_of_ble_eq_true rfl) (Nat.le_of_ble_eq_true rfl) (Nat.le_of_ble_eq_true rfl) ?_
  rintro _ G3 _ ⟨rfl, rfl, ar3, fr'3⟩
  have fr3 : ∀ a, a ≠ 4 → a ≠ 5 → G3 a = G a := fun a h4 h5 => (fr'3 a h4 h5).trans (fr2 a h4 h5)
  refine ax_iadd dX3_tells_18 ?_
  refine ax_iret dX3_tells_19 rfl rfl (Nat.le_of_ble_eq_true rfl) (Nat.le_of_ble_eq_true rfl) ?_
  exact ⟨rfl, rfl, rfl, ar3, fr3⟩
