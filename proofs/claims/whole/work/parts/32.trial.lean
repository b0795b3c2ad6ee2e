-- ===== contracts: what is tried, in the pure values =====
abbrev RP (v : Value) (P : Zt → Gt → Lt → Prop) : Qt := fun r Z G L => r = some v ∧ P Z G L
abbrev NP (P : Zt → Gt → Lt → Prop) : Qt := fun r Z G L => r = none ∧ P Z G L
section AXQ
variable {X : Option (Nat × (Nat → Int32))} {M : Mt} {d mc ms cu su pc : Nat} {lv : Lv} {st : List Value} {Z : Zt} {G : Gt} {L : Lt} {Q : Qt}
theorem ax_cVq {idx n d' k ci : Nat} {M' : Mt} {av st0 : List Value} {v : Value} {P : Zt → Gt → Lt → Prop} (hd : decode M.2.1 pc = .ok (.invokevirtual idx, 3)) (hlk : LkV M.1.cls idx M' n) (hA : AC M' d' 0 0 (.ref k :: av) Z G L (RP v P)) (hst0 : st0 = av.reverse ++ .ref k :: st) (hsh : Z.2.1 k = some (.inl ci)) (hci : ∃ q : vw_C, CL[ci]? = some q ∧ q.1 = M'.1.cls) (hn9 : av.length = n) (hst : (st.map fun v => v.category).sum ≤ 8) (hdd : d' + 1 ≤ d) (hc1 : cu ≤ mc) (hc2 : su ≤ ms)
    (kk : ∀ (Z' : Zt) (G' : Gt) (L' : Lt), P Z' G' L' → AX X M d mc ms cu su (pc + 3) lv (v :: st) Z' G' L' Q) : AX X M d mc ms cu su pc lv st0 Z G L Q :=
  ax_callV hd hlk hA hst0 hsh hci hn9 hst hdd hc1 hc2 (fun _ _ _ _ h => by obtain ⟨rfl, h⟩ := h; exact kk _ _ _ h)
theorem ax_cVq0 {idx n d' k ci : Nat} {M' : Mt} {av st0 : List Value} {P : Zt → Gt → Lt → Prop} (hd : decode M.2.1 pc = .ok (.invokevirtual idx, 3)) (hlk : LkV M.1.cls idx M' n) (hA : AC M' d' 0 0 (.ref k :: av) Z G L (NP P)) (hst0 : st0 = av.reverse ++ .ref k :: st) (hsh : Z.2.1 k = some (.inl ci)) (hci : ∃ q : vw_C, CL[ci]? = some q ∧ q.1 = M'.1.cls) (hn9 : av.length = n) (hst : (st.map fun v => v.category).sum ≤ 8) (hdd : d' + 1 ≤ d) (hc1 : cu ≤ mc) (hc2 : su ≤ ms)
    (kk : ∀ (Z' : Zt) (G' : Gt) (L' : Lt), P Z' G' L' → AX X M d mc ms cu su (pc + 3) lv st Z' G' L' Q) : AX X M d mc ms cu su pc lv st0 Z G L Q :=
  ax_callV hd hlk hA hst0 hsh hci hn9 hst hdd hc1 hc2 (fun _ _ _ _ h => by obtain ⟨rfl, h⟩ := h; exact kk _ _ _ h)
theorem ax_cSq {idx n d' : Nat} {M' : Mt} {av st0 : List Value} {v : Value} {P : Zt → Gt → Lt → Prop} (hd : decode M.2.1 pc = .ok (.invokestatic idx, 3)) (hlk : LkS M.1.cls idx M' n) (hA : AC M' d' 0 0 av Z G L (RP v P)) (hst0 : st0 = av.reverse ++ st) (hn9 : av.length = n) (hst : (st.map fun v => v.category).sum ≤ 8) (hdd : d' + 1 ≤ d) (hc1 : cu ≤ mc) (hc2 : su ≤ ms)
    (kk : ∀ (Z' : Zt) (G' : Gt) (L' : Lt), P Z' G' L' → AX X M d mc ms cu su (pc + 3) lv (v :: st) Z' G' L' Q) : AX X M d mc ms cu su pc lv st0 Z G L Q :=
  ax_callS hd hlk hA hst0 hn9 hst hdd hc1 hc2 (fun _ _ _ _ h => by obtain ⟨rfl, h⟩ := h; exact kk _ _ _ h)
theorem ac_wf {M : Mt} {d mc ms : Nat} {av : List Value} {Z : Zt} {G : Gt} {L : Lt} {Q : Qt} (h : WF Z → AC M d mc ms av Z G L Q) : AC M d mc ms av Z G L Q := by
  intro l dC dI tc ad sz p e ha hc hk s m args below hf happ hP hK
  exact h hP.2.2.2.2.2.2.1 l dC dI tc ad sz p e ha hc hk s m args below hf happ hP hK
end AXQ
abbrev TP (Z : Zt) (G : Gt) (L : Lt) : Zt → Gt → Lt → Prop := fun Z' G' L' => L' = L ∧ trP Z G Z' G'
abbrev TV (Z : Zt) (G : Gt) (L : Lt) (W : Wv) : Zt → Gt → Lt → Prop := fun Z' G' L' => L' = L ∧ trP Z G Z' G' ∧ vC Z' G' 58 W
def scoreV (W : Wv) : Int32 := 10000 * bc (evenB W.gr 4) - sumB W.gr 4
section KT
variable {Z : Zt} {G : Gt} {L : Lt} {W : Wv}
theorem k_go (hZ : OK Z) (hv : vC Z G 24 W) (ho : okW W) : AC mX10_goOnFrom 2 0 0 [.ref 58, .ref 24] Z G L (NP (TV Z G L W)) := by
  refine ac_wf (fun hwf => ?_)
  refine AC.weaken (c_goOnFrom hZ (isW58 hZ) (isW24 hZ) (Or.inr (by decide)) ho.1 hv.1 (fun j hj => hwf.2.2.1 _ _ _ hj)) ?_
  rintro r Z' G' L' ⟨rfl, rfl, rfl, hg⟩
  exact ⟨rfl, rfl, go_trP hg, go_vC (by decide) (by decide) hg hv⟩
theorem k_min (hZ : OK Z) (hv : vC Z G 58 W) (ho : okW W) (n : Nat) (hn : n ≤ 60) (hm : W.mm + n < 20000) : AC mX10_minutesGo 3 0 0 [.ref 58, .int (nI n)] Z G L (NP (TV Z G L (minVN n W))) := by
  refine AC.weaken (c_minutesGo hZ (isW58 hZ) (vC_wOK hv ho) n (by omega) (by omega)) ?_
  rintro r Z' G' L' ⟨rfl, rfl, rfl, rfl⟩
  exact ⟨rfl, rfl, ⟨rfl, rfl, fun _ _ _ => rfl, fun a h => minN_f (by omega) ho.1 _ _ _⟩, vC_minN (by decide) n hv ho.1⟩
theorem k_br (hZ : OK Z) {w : Nat} (hw : isW Z w) (hv : vC Z G w W) (ho : okW W) (p : Nat) (hp : p < W.m) : AC mX10_brightness 4 0 0 [.ref w, .int (nI p)] Z G L (RQ (.int (lightV W p)) Z G L) := by
  rw [← vC_light hv hp]
  exact c_bright hZ hw (vC_wOK hv ho) p hp
theorem k_ign (hZ : OK Z) (hv : vC Z G 58 W) (ho : okW W) (p : Nat) (hp : p < W.m) : AC mX10_ignite 5 0 0 [.ref 58, .int (nI p)] Z G L (RP (.int (if lightV W p ≤ 0 then 1 else 2)) (TV Z G L (litV W p))) := by
  refine AC.weaken (c_ignite hZ (isW58 hZ) (vC_wOK hv ho) p hp) ?_
  rintro r Z' G' L' ⟨rfl, rfl, rfl, rfl⟩
  refine ⟨by unfold ignR; rw [vC_light hv hp], rfl, ⟨rfl, rfl, fun _ _ _ => rfl, fun a h => ignG_f (by omega) (by have := ho.1; omega)⟩, vC_ign hv ho (by decide) hp⟩
theorem k_all (hZ : OK Z) (hv : vC Z G 58 W) (ho : okW W) (s : Int32) : AC mX10_igniteAll 6 0 0 [.ref 58, .int s] Z G L (NP (TV Z G L (litA W s W.m))) := by
  refine AC.weaken (c_igniteAll hZ (isW58 hZ) (vC_wOK hv ho) s) ?_
  rintro r Z' G' L' ⟨rfl, rfl, rfl, rfl⟩
  exact ⟨rfl, rfl, ⟨rfl, rfl, fun _ _ _ => rfl, fun a h => ignA_f (by omega) _ ho.1⟩, vC_ignA hv ho (by decide) _ (Nat.le_refl _)⟩
theorem k_even {w : Nat} (hw : isW Z w) (hv : vC Z G w W) : AC mX10_evenPeople 1 0 0 [.ref w] Z G L (RQ (.int (evenB W.gr 4)) Z G L) := by
  rw [← evenB_congr 4 hv.2.2.2.1]
  exact c_X10_evenPeople hw
theorem k_sum {w : Nat} (hw : isW Z w) (hv : vC Z G w W) : AC mX10_griefOfAll 1 0 0 [.ref w] Z G L (RQ (.int (sumB W.gr 4)) Z G L) := by
  rw [← sumB_congr 4 hv.2.2.2.1]
  exact c_X10_griefOfAll hw
theorem k_in {w : Nat} (hw : isW Z w) (hv : vC Z G w W) (ho : okW W) (so : Int32) : AC mX10_rocketsIn 1 0 0 [.ref w, .int so] Z G L (RQ (.int (inB (fun p => W.C p 5) so W.m)) Z G L) := by
  rw [← inB_congr W.m (fun p hp => hv.2.2.1 p hp 5 (by decide))]
  exact c_X10_rocketsIn hw ho.1 hv.1 so
theorem k_score {w : Nat} (hw : isW Z w) (hv : vC Z G w W) : AC mX10_score 2 0 0 [.ref w] Z G L (RQ (.int (scoreV W)) Z G L) := by
  have e : scoreV W = r_X10_score G L w := by
    unfold scoreV r_X10_score
    rw [evenB_congr 4 hv.2.2.2.1, sumB_congr 4 hv.2.2.2.1]
  rw [e]
  exact c_X10_score hw
theorem k_has {w : Nat} (hw : isW Z w) (hv : vC Z G w W) (a : Int32) : AC mX10_has 2 0 0 [.ref w, .int a] Z G L (RQ (.int (wi a 0 (nI W.m - 1))) Z G L) := by
  rw [← hv.1]
  exact c_X10_has hw a
end KT
theorem minVN_s : ∀ (n : Nat) (W : Wv), minV (minVN n W) = minVN (n + 1) W
  | 0, _ => rfl
  | n + 1, W => minVN_s n (minV W)
theorem has_p {a : Int32} {m : Nat} (hm : m ≤ 6) (h : ¬ wi a 0 (nI m - 1) = 0) : ∃ p, p < m ∧ a = nI p := by
  have h1 := wi_e h
  have h2 := has_l (m := m) (by omega) ⟨m, Nat.le_refl m, rfl⟩ h
  exact ⟨_, h2, h1⟩
/-- the brightest of n minutes, and when -/
def bmV (W : Wv) (p : Nat) : Nat → Int32 × Nat
  | 0 => (lightV W p, 0)
  | n + 1 => if lightV (minVN (n + 1) W) p ≤ (bmV W p n).1 then bmV W p n else (lightV (minVN (n + 1) W) p, n + 1)
theorem bmV_le {W : Wv} {p : Nat} : ∀ n, (bmV W p n).2 ≤ n
  | 0 => Nat.le_refl 0
  | n + 1 => by
    unfold bmV
    by_cases c : lightV (minVN (n + 1) W) p ≤ (bmV W p n).1
    · rw [if_pos c]; have := bmV_le (W := W) (p := p) n; omega
    · rw [if_neg c]; exact Nat.le_refl _
theorem c_lightOn {Z : Zt} {G : Gt} {L : Lt} {W : Wv} (hZ : OK Z) (hv : vC Z G 24 W) (ho : okW W) (n p : Nat) (hn : n ≤ 60) (hm : W.mm + n < 20000) (hp : p < W.m) : AC mX11_lightOn 5 0 0 [.ref 0, .int (nI n), .int (nI p)] Z G L (RP (.int (lightV (minVN n W) p)) (TP Z G L)) := by
  refine AC.intro (by decide +kernel) (Nat.le_of_ble_eq_true rfl) ?_
  refine ax_lv [(0, .ref 0), (1, .int (nI n)), (2, .int (nI p))] ⟨rfl, rfl, rfl, trivial⟩ ?_
  refine ax_aload_n (i := 0) dX11_lightOn_0 rfl rfl ?_
  refine ax_getR dX11_lightOn_1 fl_X11_21 rfl (OKs hZ rfl) (OKr hZ rfl) ?_
  refine ax_aload_n (i := 0) dX11_lightOn_4 rfl rfl ?_
  refine ax_getR dX11_lightOn_5 fl_X11_14 rfl (OKs hZ rfl) (OKr hZ rfl) ?_
  refine ax_cVq0 dX11_lightOn_8 lk_X11_162 (k_go hZ (trP_vC (trP_refl (Z := Z) (G := G)) hv ho.1 (Or.inl rfl)) ho) rfl (OKs hZ rfl) ⟨_, rfl, rfl⟩ rfl (Nat.le_of_ble_eq_true rfl) (Nat.le_of_ble_eq_true rfl) (Nat.le_of_ble_eq_true rfl) (Nat.le_of_ble_eq_true rfl) ?_
  rintro Z1 G1 _ ⟨rfl, t'1, v1⟩
  have t1 := trP_trans (trP_refl (Z := Z) (G := G)) t'1
  refine ax_aload_n (i := 0) dX11_lightOn_11 rfl rfl ?_
  refine ax_getR dX11_lightOn_12 fl_X11_21 rfl (OKs (trP_OK t1 hZ) rfl) (OKr (trP_OK t1 hZ) rfl) ?_
  refine ax_iload_n (i := 1) dX11_lightOn_15 rfl rfl ?_
  refine ax_cVq0 dX11_lightOn_16 lk_X11_158 (k_min (trP_OK t1 hZ) v1 ho n hn hm) rfl (OKs (trP_OK t1 hZ) rfl) ⟨_, rfl, rfl⟩ rfl (Nat.le_of_ble_eq_true rfl) (Nat.le_of_ble_eq_true rfl) (Nat.le_of_ble_eq_true rfl) (Nat.le_of_ble_eq_true rfl) ?_
  rintro Z2 G2 _ ⟨rfl, t'2, v2⟩
  have t2 := trP_trans t1 t'2
  refine ax_aload_n (i := 0) dX11_lightOn_19 rfl rfl ?_
  refine ax_getR dX11_lightOn_20 fl_X11_21 rfl (OKs (trP_OK t2 hZ) rfl) (OKr (trP_OK t2 hZ) rfl) ?_
  refine ax_iload_n (i := 2) dX11_lightOn_23 rfl rfl ?_
  refine ax_cVv dX11_lightOn_24 lk_X11_69 (k_br (trP_OK t2 hZ) (isW58 (trP_OK t2 hZ)) v2 (minVN_ok n ho hm) p (by rw [minVN_m]; exact hp)) rfl (OKs (trP_OK t2 hZ) rfl) ⟨_, rfl, rfl⟩ rfl (Nat.le_of_ble_eq_true rfl) (Nat.le_of_ble_eq_true rfl) (Nat.le_of_ble_eq_true rfl) (Nat.le_of_ble_eq_true rfl) ?_
  refine ax_iret dX11_lightOn_27 rfl rfl (Nat.le_of_ble_eq_true rfl) (Nat.le_of_ble_eq_true rfl) ?_
  exact ⟨rfl, rfl, t2⟩
theorem l_brightestMinutes {Z0 : Zt} {G0 : Gt} {L : Lt} {Q : Qt} {W : Wv} (hZ : OK Z0) (hv : vC Z0 G0 24 W) (ho : okW W) (hm : W.mm + 20 < 20000) (p : Nat) (hp : p < W.m) (hend : ∀ Z G, trP Z0 G0 Z G → AX none mX11_brightestMinutes 5 0 0 0 0 68 [(3, .int (nI (bmV W p 20).2))] [] Z G L Q) : ∀ (n q : Nat), q ≤ 20 → 20 - q < n → ∀ Z G, trP Z0 G0 Z G → vC Z G 58 (minVN q W) → AX none mX11_brightestMinutes 5 0 0 0 0 25 [(0, .ref 0), (1, .int (nI p)), (2, .int (bmV W p q).1), (3, .int (nI (bmV W p q).2)), (4, .int (nI (q + 1)))] [] Z G L Q := by
  intro n
  induction n with
  | zero => intro q h1 h2; omega
  | succ n ih =>
    intro q h1 h2 Z G t9 hq9
    have hZ9 := trP_OK t9 hZ
    refine ax_iload dX11_brightestMinutes_25 rfl ?_
    refine ax_bipush (v := 20) dX11_brightestMinutes_27 (by decide) ?_
    refine ax_icmp_gt (tgt := 68) dX11_brightestMinutes_29 (by decide) (fun c_29 => ?_) (fun c_29 => ?_)
    · obtain rfl : q = 20 := by have := mt (nI_leI (by omega) (by decide)).mpr (Int32.not_le.mpr (show nI 20 < nI (q + 1) from c_29)); omega
      exact ax_lv [(3, .int (nI (bmV W p 20).2))] ⟨rfl, trivial⟩ (hend _ _ t9)
    · have hq20 : q + 1 ≤ 20 := (nI_leI (by omega) (by decide)).mp (Int32.not_lt.mp (show ¬ nI 20 < nI (q + 1) from c_29))
      refine ax_aload_n (i := 0) dX11_brightestMinutes_32 rfl rfl ?_
      refine ax_getR dX11_brightestMinutes_33 fl_X11_21 rfl (OKs hZ9 rfl) (OKr hZ9 rfl) ?_
      refine ax_iconst (v := 1) dX11_brightestMinutes_36 (by decide) ?_
      refine ax_cVq0 dX11_brightestMinutes_37 lk_X11_158 (k_min hZ9 hq9 (minVN_ok q ho (by omega)) 1 (by decide) (by rw [minVN_mm]; omega)) rfl (OKs hZ9 rfl) ⟨_, rfl, rfl⟩ rfl (Nat.le_of_ble_eq_true rfl) (Nat.le_of_ble_eq_true rfl) (Nat.le_of_ble_eq_true rfl) (Nat.le_of_ble_eq_true rfl) ?_
      rintro Z1 G1 _ ⟨rfl, t'1, v1⟩
      have t1 := trP_trans t9 t'1
      refine ax_aload_n (i := 0) dX11_brightestMinutes_40 rfl rfl ?_
      refine ax_getR dX11_brightestMinutes_41 fl_X11_21 rfl (OKs (trP_OK t1 hZ) rfl) (OKr (trP_OK t1 hZ) rfl) ?_
      refine ax_iload_n (i := 1) dX11_brightestMinutes_44 rfl rfl ?_
      rw [show minVN 1 (minVN q W) = minVN (q + 1) W from minVN_s q W] at v1
      refine ax_cVv dX11_brightestMinutes_45 lk_X11_69 (k_br (trP_OK t1 hZ) (isW58 (trP_OK t1 hZ)) v1 (minVN_ok (q + 1) ho (by omega)) p (by rw [minVN_m]; exact hp)) rfl (OKs (trP_OK t1 hZ) rfl) ⟨_, rfl, rfl⟩ rfl (Nat.le_of_ble_eq_true rfl) (Nat.le_of_ble_eq_true rfl) (Nat.le_of_ble_eq_true rfl) (Nat.le_of_ble_eq_true rfl) ?_
      refine ax_istore dX11_brightestMinutes_48 (by decide) rfl ?_
      refine ax_iload dX11_brightestMinutes_50 rfl ?_
      refine ax_iload_n (i := 2) dX11_brightestMinutes_52 rfl rfl ?_
      refine ax_icmp_le (tgt := 62) dX11_brightestMinutes_53 (by decide) (fun c_53 => ?_) (fun c_53 => ?_)
      · refine ax_iinc (v := (nI (q + 1)) + 1) dX11_brightestMinutes_62 rfl rfl (by decide) rfl ?_
        refine ax_goto (tgt := 25) dX11_brightestMinutes_65 (by decide) ?_
        refine ax_lv [(0, .ref 0), (1, .int (nI p)), (2, .int (bmV W p (q + 1)).1), (3, .int (nI (bmV W p (q + 1)).2)), (4, .int (nI ((q + 1) + 1)))] ⟨rfl, rfl, sI (by rw [bmV]; first | rw [if_pos c_53] | rw [if_neg c_53]), sI (by rw [bmV]; first | rw [if_pos c_53] | rw [if_neg c_53]), sI (nI_1 (q + 1)), trivial⟩ ?_
        exact ih (q + 1) (by omega) (by omega) _ _ t1 v1
      · refine ax_iload dX11_brightestMinutes_56 rfl ?_
        refine ax_istore_n (i := 2) dX11_brightestMinutes_58 rfl (by decide) rfl ?_
        refine ax_iload dX11_brightestMinutes_59 rfl ?_
        refine ax_istore_n (i := 3) dX11_brightestMinutes_61 rfl (by decide) rfl ?_
        refine ax_iinc (v := (nI (q + 1)) + 1) dX11_brightestMinutes_62 rfl rfl (by decide) rfl ?_
        refine ax_goto (tgt := 25) dX11_brightestMinutes_65 (by decide) ?_
        refine ax_lv [(0, .ref 0), (1, .int (nI p)), (2, .int (bmV W p (q + 1)).1), (3, .int (nI (bmV W p (q + 1)).2)), (4, .int (nI ((q + 1) + 1)))] ⟨rfl, rfl, sI (by rw [bmV]; first | rw [if_pos c_53] | rw [if_neg c_53]), sI (by rw [bmV]; first | rw [if_pos c_53] | rw [if_neg c_53]), sI (nI_1 (q + 1)), trivial⟩ ?_
        exact ih (q + 1) (by omega) (by omega) _ _ t1 v1
theorem c_brightestMinutes {Z : Zt} {G : Gt} {L : Lt} {W : Wv} (hZ : OK Z) (hv : vC Z G 24 W) (ho : okW W) (hm : W.mm + 20 < 20000) (p : Nat) (hp : p < W.m) : AC mX11_brightestMinutes 5 0 0 [.ref 0, .int (nI p)] Z G L (RP (.int (nI (bmV W p 20).2)) (TP Z G L)) := by
  refine AC.intro (by decide +kernel) (Nat.le_of_ble_eq_true rfl) ?_
  refine ax_lv [(0, .ref 0), (1, .int (nI p))] ⟨rfl, rfl, trivial⟩ ?_
  refine ax_aload_n (i := 0) dX11_brightestMinutes_0 rfl rfl ?_
  refine ax_getR dX11_brightestMinutes_1 fl_X11_21 rfl (OKs hZ rfl) (OKr hZ rfl) ?_
  refine ax_aload_n (i := 0) dX11_brightestMinutes_4 rfl rfl ?_
  refine ax_getR dX11_brightestMinutes_5 fl_X11_14 rfl (OKs hZ rfl) (OKr hZ rfl) ?_
  refine ax_cVq0 dX11_brightestMinutes_8 lk_X11_162 (k_go hZ (trP_vC (trP_refl (Z := Z) (G := G)) hv ho.1 (Or.inl rfl)) ho) rfl (OKs hZ rfl) ⟨_, rfl, rfl⟩ rfl (Nat.le_of_ble_eq_true rfl) (Nat.le_of_ble_eq_true rfl) (Nat.le_of_ble_eq_true rfl) (Nat.le_of_ble_eq_true rfl) ?_
  rintro Z1 G1 _ ⟨rfl, t'1, v1⟩
  have t1 := trP_trans (trP_refl (Z := Z) (G := G)) t'1
  refine ax_aload_n (i := 0) dX11_brightestMinutes_11 rfl rfl ?_
  refine ax_getR dX11_brightestMinutes_12 fl_X11_21 rfl (OKs (trP_OK t1 hZ) rfl) (OKr (trP_OK t1 hZ) rfl) ?_
  refine ax_iload_n (i := 1) dX11_brightestMinutes_15 rfl rfl ?_
  refine ax_cVv dX11_brightestMinutes_16 lk_X11_69 (k_br (trP_OK t1 hZ) (isW58 (trP_OK t1 hZ)) v1 ho p hp) rfl (OKs (trP_OK t1 hZ) rfl) ⟨_, rfl, rfl⟩ rfl (Nat.le_of_ble_eq_true rfl) (Nat.le_of_ble_eq_true rfl) (Nat.le_of_ble_eq_true rfl) (Nat.le_of_ble_eq_true rfl) ?_
  refine ax_istore_n (i := 2) dX11_brightestMinutes_19 rfl (by decide) rfl ?_
  refine ax_iconst (v := 0) dX11_brightestMinutes_20 (by decide) ?_
  refine ax_istore_n (i := 3) dX11_brightestMinutes_21 rfl (by decide) rfl ?_
  refine ax_iconst (v := 1) dX11_brightestMinutes_22 (by decide) ?_
  refine ax_istore dX11_brightestMinutes_23 (by decide) rfl ?_
  refine ax_lv [(0, .ref 0), (1, .int (nI p)), (2, .int (bmV W p 0).1), (3, .int (nI (bmV W p 0).2)), (4, .int (nI (0 + 1)))] ⟨rfl, rfl, rfl, rfl, rfl, trivial⟩ ?_
  refine l_brightestMinutes hZ hv ho hm p hp ?_ 21 0 (by omega) (by omega) _ _ t1 v1
  intro Z9 G9 t9
  refine ax_iload_n (i := 3) dX11_brightestMinutes_68 rfl rfl ?_
  refine ax_iret dX11_brightestMinutes_69 rfl rfl (Nat.le_of_ble_eq_true rfl) (Nat.le_of_ble_eq_true rfl) ?_
  exact ⟨rfl, rfl, t9⟩
