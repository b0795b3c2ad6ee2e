-- ===== contracts: what changes a World =====
theorem w_TP {M : Mt} {d mc ms : Nat} {av : List Value} {v : Value} {Z : Zt} {G : Gt} {L : Lt} {W : Wv} {H : Hv} {I : Option (Wv × Hv)} {T : Nat × (Nat → Nat)} {R : Nat × (Nat → Int32)} {P : Pt9} {n : Nat} (h : IC Z G L W H I T R P n) (c : AC M d mc ms av Z G L (RP v (TP Z G L))) : AC M d mc ms av Z G L (RP v (IQ G L W H I T R P n)) :=
  AC.weaken c (fun _ _ _ _ q => by obtain ⟨rfl, rfl, t⟩ := q; exact ⟨rfl, IC_tr h t⟩)
theorem w_RQ {M : Mt} {d mc ms : Nat} {av : List Value} {v : Value} {Z : Zt} {G : Gt} {L : Lt} {W : Wv} {H : Hv} {I : Option (Wv × Hv)} {T : Nat × (Nat → Nat)} {R : Nat × (Nat → Int32)} {P : Pt9} {n : Nat} (h : IC Z G L W H I T R P n) (c : AC M d mc ms av Z G L (RQ v Z G L)) : AC M d mc ms av Z G L (RP v (IQ G L W H I T R P n)) :=
  AC.weaken c (fun _ _ _ _ q => by obtain ⟨rfl, rfl, rfl, rfl⟩ := q; exact ⟨rfl, h, fC_refl⟩)
theorem w_T6 {M : Mt} {d mc ms : Nat} {av : List Value} {v : Value} {Z : Zt} {G : Gt} {L : Lt} {W : Wv} {H : Hv} {I : Option (Wv × Hv)} {T : Nat × (Nat → Nat)} {R : Nat × (Nat → Int32)} {P : Pt9} {n : Nat} (h : IC Z G L W H I T R P n) (c : AC M d mc ms av Z G L (RP v (T6 Z G L))) : AC M d mc ms av Z G L (RP v (IQ G L W H I T R P n)) :=
  AC.weaken c (fun _ _ _ _ q => by obtain ⟨rfl, rfl, f, t⟩ := q; exact ⟨rfl, IC_T6 h t⟩)
theorem w_MV {M : Mt} {d mc ms : Nat} {av : List Value} {v : Value} {Z : Zt} {G : Gt} {L : Lt} {W W' : Wv} {H : Hv} {I : Option (Wv × Hv)} {T : Nat × (Nat → Nat)} {R : Nat × (Nat → Int32)} {P : Pt9} {n : Nat} (h : IC Z G L W H I T R P n) (ho : okW W') (h9 : W'.mm ≤ 9999) (hh : okH W'.m H) (c : AC M d mc ms av Z G L (RP v (MV Z G L W'))) : AC M d mc ms av Z G L (RP v (IQ G L W' H I T R P n)) :=
  AC.weaken c (fun _ _ _ _ q => by obtain ⟨rfl, m⟩ := q; obtain ⟨rfl, rfl, -⟩ := id m; exact ⟨rfl, IC_MV h m ho h9 hh⟩)
def grV (W : Wv) (q : Nat) (x : Int32) : Wv := mkW W.m W.mm W.C (up1 W.gr q x) W.rn W.sb W.dry
theorem mv_set {Z : Zt} {G : Gt} {L : Lt} {W : Wv} (h : vC Z G 24 W) (ho : okW W) {p c : Nat} {x : Int32} (hp : p < W.m) : MV Z G L (setV W p c x) Z (up2 G (24 + 2 + p) c x) L :=
  ⟨rfl, rfl, vC_set h ho (by decide) hp, fun a ha => up2_row (by have := ho.1; omega), fun i _ _ => up2_k (by omega)⟩
theorem mv_rn {Z : Zt} {G : Gt} {L : Lt} {W : Wv} (h : vC Z G 24 W) (ho : okW W) {q : Nat} {x : Int32} : MV Z G L (rnV W q x) Z (up2 G 33 q x) L :=
  ⟨rfl, rfl, vC_rn (w := 24) h ho (by decide), fun a ha => up2_row (by omega), fun i _ _ => up2_k (by omega)⟩
theorem mv_gr {Z : Zt} {G : Gt} {L : Lt} {W : Wv} (h : vC Z G 24 W) (ho : okW W) {q : Nat} {x : Int32} : MV Z G L (grV W q x) Z (up2 G 32 q x) L := by
  have hm6 := ho.1
  obtain ⟨a1, a2, a3, a4, a5, a6, a7, a8⟩ := id h
  refine ⟨rfl, rfl, ?_, fun a ha => up2_row (by omega), fun i _ _ => up2_k (by omega)⟩
  refine vC_step h (fun a ha => ?_) ?_ ?_ (fun a ha i hi => ?_) (fun b hb => ?_) (fun b hb => ?_) rfl rfl
  · rw [up2_row (by omega)]
  · rw [up2_k (by omega)]; exact a1
  · rw [up2_k (by omega)]; exact a2
  · have ha : a < W.m := ha
    rw [up2_k (by omega)]; exact a3 a ha i hi
  · show up2 G 32 q x 32 b = up1 W.gr q x b
    by_cases e : b = q
    · subst e; rw [up2_s, up1_s]
    · rw [up2_i e, up1_n e]; exact a4 b hb
  · rw [up2_k (by omega)]; exact a5 b hb
def grA (W : Wv) (a x : Int32) : Int32 × Wv := if wi a 0 3 = 0 then (-1, W) else if wi x 0 999 = 0 then (-2, W) else (W.gr a.toNatClampNeg, grV W a.toNatClampNeg x)
def raA (W : Wv) (a x : Int32) : Int32 × Wv := if wi a 0 3 = 0 then (-1, W) else if wi x 0 9 = 0 then (-2, W) else (W.rn a.toNatClampNeg, rnV W a.toNatClampNeg x)
def seR (W : Wv) (p : Nat) (b x : Int32) : Int32 × Wv := if b = 0 then (if wi x 0 20 = 0 then (-2, W) else (W.C p 2, setV W p 2 x)) else if b = 1 then (if wi x 0 99 = 0 then (-2, W) else (W.C p 4, setV W p 4 x)) else (if wi x 0 3 = 0 then (-2, W) else (W.C p 3, setV W p 3 x))
def seA (W : Wv) (a b x : Int32) : Int32 × Wv := if wi a 0 (nI W.m - 1) = 0 then (-1, W) else if wi b 0 2 = 0 then (-1, W) else seR W a.toNatClampNeg b x
def roA (W : Wv) (a b x : Int32) : Int32 × Wv := if wi a 0 (nI W.m - 1) = 0 then (-1, W) else if wi b 0 3 = 0 then (-1, W) else if wi x 0 9 = 0 then (-2, W) else if W.C a.toNatClampNeg 0 = 6 then (W.C a.toNatClampNeg (6 + b.toNatClampNeg), setV W a.toNatClampNeg (6 + b.toNatClampNeg) x) else (-3, W)
def paA (W : Wv) (a : Int32) : Int32 × Wv := if wi a 0 60 = 0 then (-2, W) else if nI W.mm + a ≤ 9999 then (nI (W.mm + a.toNatClampNeg), minVN a.toNatClampNeg W) else (-3, W)
def liA (W : Wv) (a : Int32) : Int32 × Wv := if wi a 0 (nI W.m - 1) = 0 then (-1, W) else if W.C a.toNatClampNeg 5 = 0 then (if lightV W a.toNatClampNeg ≤ 0 then 1 else 2, litV W a.toNatClampNeg) else (-3, W)
def newV (W : Wv) (a b c d : Int32) : Wv := mkW (W.m + 1) W.mm (fun p i => if p = W.m then (if i = 0 then a else if i = 1 then b else if i = 2 then c else if i = 3 then d else 0) else W.C p i) W.gr W.rn W.sb W.dry
def nwA (W : Wv) (a b c d : Int32) : Int32 × Wv := if wi a 0 6 = 0 then (-1, W) else if wi d 0 3 = 0 then (-1, W) else if wi b 0 9 = 0 then (-2, W) else if wi c 0 20 = 0 then (-2, W) else if nI W.m < 6 then (nI W.m, newV W a b c d) else (-4, W)
theorem k_grieve {Z : Zt} {G : Gt} {L : Lt} {W : Wv} (hZ : OK Z) (hv : vC Z G 24 W) (ho : okW W) (a x : Int32) : AC mX11_grieve 2 0 0 [.ref 0, .int a, .int x] Z G L (RP (.int (grA W a x).1) (MV Z G L (grA W a x).2)) := by
  refine AC.intro (by decide +kernel) (Nat.le_of_ble_eq_true rfl) ?_
  refine ax_lv [(0, .ref 0), (1, .int a), (2, .int x)] ⟨rfl, rfl, rfl, trivial⟩ ?_
  refine ax_iload_n (i := 1) dX11_grieve_0 rfl rfl ?_
  refine ax_iconst (v := 3) dX11_grieve_1 (by decide) ?_
  refine ax_cSv dX11_grieve_2 lk_X11_53 (c_X11_within a 3) rfl rfl (Nat.le_of_ble_eq_true rfl) (Nat.le_of_ble_eq_true rfl) (Nat.le_of_ble_eq_true rfl) (Nat.le_of_ble_eq_true rfl) ?_
  refine ax_if_ne (tgt := 10) dX11_grieve_5 (by decide) (fun c_5 => ?_) (fun c_5 => ?_)
  · obtain ⟨p, hp3, rfl⟩ := wi_n (k := 3) (by decide) c_5
    have hp : p < 4 := by omega
    refine ax_iload_n (i := 2) dX11_grieve_10 rfl rfl ?_
    refine ax_sipush (v := 999) dX11_grieve_11 (by decide) ?_
    refine ax_cSv dX11_grieve_14 lk_X11_53 (c_X11_within x 999) rfl rfl (Nat.le_of_ble_eq_true rfl) (Nat.le_of_ble_eq_true rfl) (Nat.le_of_ble_eq_true rfl) (Nat.le_of_ble_eq_true rfl) ?_
    refine ax_if_ne (tgt := 23) dX11_grieve_17 (by decide) (fun c_17 => ?_) (fun c_17 => ?_)
    · refine ax_aload_n (i := 0) dX11_grieve_23 rfl rfl ?_
      refine ax_getR dX11_grieve_24 fl_X11_14 rfl (OKs hZ rfl) (OKr hZ rfl) ?_
      refine ax_getR dX11_grieve_27 fl_X11_101 rfl (OKs hZ rfl) (OKr hZ rfl) ?_
      refine ax_iload_n (i := 1) dX11_grieve_30 rfl rfl ?_
      refine ax_iload_n (i := 2) dX11_grieve_31 rfl rfl ?_
      refine ax_cSv dX11_grieve_32 lk_X11_91 (c_X11_swap (OKs hZ rfl) (by decide) p hp _ x rfl) rfl rfl (Nat.le_of_ble_eq_true rfl) (Nat.le_of_ble_eq_true rfl) (Nat.le_of_ble_eq_true rfl) (Nat.le_of_ble_eq_true rfl) ?_
      refine ax_iret dX11_grieve_35 rfl rfl (Nat.le_of_ble_eq_true rfl) (Nat.le_of_ble_eq_true rfl) ?_
      have e9 : grA W (nI p) x = (W.gr p, grV W p x) := by unfold grA; (try rw [if_neg c_5]); (try rw [if_neg c_17]); (try rw [nI_clamp (by omega)]); (try rfl)
      rw [e9]
      exact ⟨congrArg (fun z => some (Value.int z)) (hv.2.2.2.1 p hp), mv_gr hv ho⟩
    · refine ax_bipush (v := (-2)) dX11_grieve_20 (by decide) ?_
      refine ax_iret dX11_grieve_22 rfl rfl (Nat.le_of_ble_eq_true rfl) (Nat.le_of_ble_eq_true rfl) ?_
      have e9 : grA W (nI p) x = ((-2), W) := by unfold grA; (try rw [if_neg c_5]); (try rw [if_pos c_17]); first | done | rfl
      rw [e9]
      exact ⟨rfl, MV_same hv⟩
  · refine ax_iconst (v := (-1)) dX11_grieve_8 (by decide) ?_
    refine ax_iret dX11_grieve_9 rfl rfl (Nat.le_of_ble_eq_true rfl) (Nat.le_of_ble_eq_true rfl) ?_
    have e9 : grA W a x = ((-1), W) := by unfold grA; (try rw [if_pos c_5]); first | done | rfl
    rw [e9]
    exact ⟨rfl, MV_same hv⟩
theorem k_rain {Z : Zt} {G : Gt} {L : Lt} {W : Wv} (hZ : OK Z) (hv : vC Z G 24 W) (ho : okW W) (a x : Int32) : AC mX11_rain 2 0 0 [.ref 0, .int a, .int x] Z G L (RP (.int (raA W a x).1) (MV Z G L (raA W a x).2)) := by
  refine AC.intro (by decide +kernel) (Nat.le_of_ble_eq_true rfl) ?_
  refine ax_lv [(0, .ref 0), (1, .int a), (2, .int x)] ⟨rfl, rfl, rfl, trivial⟩ ?_
  refine ax_iload_n (i := 1) dX11_rain_0 rfl rfl ?_
  refine ax_iconst (v := 3) dX11_rain_1 (by decide) ?_
  refine ax_cSv dX11_rain_2 lk_X11_53 (c_X11_within a 3) rfl rfl (Nat.le_of_ble_eq_true rfl) (Nat.le_of_ble_eq_true rfl) (Nat.le_of_ble_eq_true rfl) (Nat.le_of_ble_eq_true rfl) ?_
  refine ax_if_ne (tgt := 10) dX11_rain_5 (by decide) (fun c_5 => ?_) (fun c_5 => ?_)
  · obtain ⟨p, hp3, rfl⟩ := wi_n (k := 3) (by decide) c_5
    have hp : p < 4 := by omega
    refine ax_iload_n (i := 2) dX11_rain_10 rfl rfl ?_
    refine ax_bipush (v := 9) dX11_rain_11 (by decide) ?_
    refine ax_cSv dX11_rain_13 lk_X11_53 (c_X11_within x 9) rfl rfl (Nat.le_of_ble_eq_true rfl) (Nat.le_of_ble_eq_true rfl) (Nat.le_of_ble_eq_true rfl) (Nat.le_of_ble_eq_true rfl) ?_
    refine ax_if_ne (tgt := 22) dX11_rain_16 (by decide) (fun c_16 => ?_) (fun c_16 => ?_)
    · refine ax_aload_n (i := 0) dX11_rain_22 rfl rfl ?_
      refine ax_getR dX11_rain_23 fl_X11_14 rfl (OKs hZ rfl) (OKr hZ rfl) ?_
      refine ax_getR dX11_rain_26 fl_X11_104 rfl (OKs hZ rfl) (OKr hZ rfl) ?_
      refine ax_iload_n (i := 1) dX11_rain_29 rfl rfl ?_
      refine ax_iload_n (i := 2) dX11_rain_30 rfl rfl ?_
      refine ax_cSv dX11_rain_31 lk_X11_91 (c_X11_swap (OKs hZ rfl) (by decide) p hp _ x rfl) rfl rfl (Nat.le_of_ble_eq_true rfl) (Nat.le_of_ble_eq_true rfl) (Nat.le_of_ble_eq_true rfl) (Nat.le_of_ble_eq_true rfl) ?_
      refine ax_iret dX11_rain_34 rfl rfl (Nat.le_of_ble_eq_true rfl) (Nat.le_of_ble_eq_true rfl) ?_
      have e9 : raA W (nI p) x = (W.rn p, rnV W p x) := by unfold raA; (try rw [if_neg c_5]); (try rw [if_neg c_16]); (try rw [nI_clamp (by omega)]); (try rfl)
      rw [e9]
      exact ⟨congrArg (fun z => some (Value.int z)) (hv.2.2.2.2.1 p hp), mv_rn hv ho⟩
    · refine ax_bipush (v := (-2)) dX11_rain_19 (by decide) ?_
      refine ax_iret dX11_rain_21 rfl rfl (Nat.le_of_ble_eq_true rfl) (Nat.le_of_ble_eq_true rfl) ?_
      have e9 : raA W (nI p) x = ((-2), W) := by unfold raA; (try rw [if_neg c_5]); (try rw [if_pos c_16]); first | done | rfl
      rw [e9]
      exact ⟨rfl, MV_same hv⟩
  · refine ax_iconst (v := (-1)) dX11_rain_8 (by decide) ?_
    refine ax_iret dX11_rain_9 rfl rfl (Nat.le_of_ble_eq_true rfl) (Nat.le_of_ble_eq_true rfl) ?_
    have e9 : raA W a x = ((-1), W) := by unfold raA; (try rw [if_pos c_5]); first | done | rfl
    rw [e9]
    exact ⟨rfl, MV_same hv⟩
theorem k_set {Z : Zt} {G : Gt} {L : Lt} {W : Wv} (hZ : OK Z) (hv : vC Z G 24 W) (ho : okW W) (a b x : Int32) : AC mX11_set 3 0 0 [.ref 0, .int a, .int b, .int x] Z G L (RP (.int (seA W a b x).1) (MV Z G L (seA W a b x).2)) := by
  refine AC.intro (by decide +kernel) (Nat.le_of_ble_eq_true rfl) ?_
  refine ax_lv [(0, .ref 0), (1, .int a), (2, .int b), (3, .int x)] ⟨rfl, rfl, rfl, rfl, trivial⟩ ?_
  refine ax_aload_n (i := 0) dX11_set_0 rfl rfl ?_
  refine ax_getR dX11_set_1 fl_X11_14 rfl (OKs hZ rfl) (OKr hZ rfl) ?_
  refine ax_iload_n (i := 1) dX11_set_4 rfl rfl ?_
  refine ax_cVv dX11_set_5 lk_X11_65 (k_has (isW24 hZ) (trP_vC (trP_refl (Z := Z) (G := G)) hv ho.1 (Or.inl rfl)) a) rfl (OKs hZ rfl) ⟨_, rfl, rfl⟩ rfl (Nat.le_of_ble_eq_true rfl) (Nat.le_of_ble_eq_true rfl) (Nat.le_of_ble_eq_true rfl) (Nat.le_of_ble_eq_true rfl) ?_
  refine ax_if_eq (tgt := 19) dX11_set_8 (by decide) (fun c_8 => ?_) (fun c_8 => ?_)
  · refine ax_iconst (v := (-1)) dX11_set_19 (by decide) ?_
    refine ax_iret dX11_set_20 rfl rfl (Nat.le_of_ble_eq_true rfl) (Nat.le_of_ble_eq_true rfl) ?_
    have e9 : seA W a b x = ((-1), W) := by unfold seA; (try rw [if_pos c_8]); (try rw [nI_clamp (by omega)]); (try unfold seR); (try rw [if_pos c_8]); first | done | rfl
    rw [e9]
    exact ⟨rfl, MV_same hv⟩
  · obtain ⟨p, hp, rfl⟩ := has_p ho.1 c_8
    have hp6 : p < 6 := by have := ho.1; omega
    refine ax_iload_n (i := 2) dX11_set_11 rfl rfl ?_
    refine ax_iconst (v := 2) dX11_set_12 (by decide) ?_
    refine ax_cSv dX11_set_13 lk_X11_53 (c_X11_within b 2) rfl rfl (Nat.le_of_ble_eq_true rfl) (Nat.le_of_ble_eq_true rfl) (Nat.le_of_ble_eq_true rfl) (Nat.le_of_ble_eq_true rfl) ?_
    refine ax_if_ne (tgt := 21) dX11_set_16 (by decide) (fun c_16 => ?_) (fun c_16 => ?_)
    · refine ax_iload_n (i := 2) dX11_set_21 rfl rfl ?_
      refine ax_if_ne (tgt := 29) dX11_set_22 (by decide) (fun c_22 => ?_) (fun c_22 => ?_)
      · refine ax_iload_n (i := 2) dX11_set_29 rfl rfl ?_
        refine ax_iconst (v := 1) dX11_set_30 (by decide) ?_
        refine ax_icmp_ne (tgt := 38) dX11_set_31 (by decide) (fun c_31 => ?_) (fun c_31 => ?_)
        · refine ax_iconst (v := 3) dX11_set_38 (by decide) ?_
          refine ax_istore dX11_set_39 (by decide) rfl ?_
          refine ax_iload_n (i := 2) dX11_set_41 rfl rfl ?_
          refine ax_if_ne (tgt := 50) dX11_set_42 (by decide) (fun c_42 => ?_) (fun c_42 => ?_)
          · refine ax_iload_n (i := 2) dX11_set_50 rfl rfl ?_
            refine ax_iconst (v := 1) dX11_set_51 (by decide) ?_
            refine ax_icmp_ne (tgt := 60) dX11_set_52 (by decide) (fun c_52 => ?_) (fun c_52 => ?_)
            · refine ax_iconst (v := 3) dX11_set_60 (by decide) ?_
              refine ax_istore dX11_set_61 (by decide) rfl ?_
              refine ax_iload_n (i := 3) dX11_set_63 rfl rfl ?_
              refine ax_iload dX11_set_64 rfl ?_
              refine ax_cSv dX11_set_66 lk_X11_53 (c_X11_within x 3) rfl rfl (Nat.le_of_ble_eq_true rfl) (Nat.le_of_ble_eq_true rfl) (Nat.le_of_ble_eq_true rfl) (Nat.le_of_ble_eq_true rfl) ?_
              refine ax_if_ne (tgt := 75) dX11_set_69 (by decide) (fun c_69 => ?_) (fun c_69 => ?_)
              · refine ax_aload_n (i := 0) dX11_set_75 rfl rfl ?_
                refine ax_getR dX11_set_76 fl_X11_14 rfl (OKs hZ rfl) (OKr hZ rfl) ?_
                refine ax_getR dX11_set_79 fl_X11_87 rfl (OKs hZ rfl) (OKr hZ rfl) ?_
                refine ax_iload_n (i := 1) dX11_set_82 rfl rfl ?_
                refine ax_aaldN p (t0 := 5) dX11_set_83 (OKs hZ rfl) rfl (fun _ => rfl) rfl hp6 (by decide) (Wrf (isW24 hZ) hp6) ?_
                refine ax_iload dX11_set_84 rfl ?_
                refine ax_iload_n (i := 3) dX11_set_86 rfl rfl ?_
                refine ax_cSv dX11_set_87 lk_X11_91 (c_X11_swap (Wrow (isW24 hZ) hp6) (by decide) 3 (by decide) _ x rfl) rfl rfl (Nat.le_of_ble_eq_true rfl) (Nat.le_of_ble_eq_true rfl) (Nat.le_of_ble_eq_true rfl) (Nat.le_of_ble_eq_true rfl) ?_
                refine ax_iret dX11_set_90 rfl rfl (Nat.le_of_ble_eq_true rfl) (Nat.le_of_ble_eq_true rfl) ?_
                have e9 : seA W (nI p) b x = (W.C p 3, setV W p 3 x) := by unfold seA; (try rw [if_neg c_8]); (try rw [if_neg c_16]); (try rw [if_neg c_22]); (try rw [if_neg c_31]); (try rw [if_neg c_42]); (try rw [if_neg c_52]); (try rw [if_neg c_69]); (try rw [nI_clamp (by omega)]); (try unfold seR); (try rw [if_neg c_8]); (try rw [if_neg c_16]); (try rw [if_neg c_22]); (try rw [if_neg c_31]); (try rw [if_neg c_42]); (try rw [if_neg c_52]); (try rw [if_neg c_69])
                rw [e9]
                exact ⟨congrArg (fun z => some (Value.int z)) (hv.2.2.1 p hp 3 (by decide)), mv_set hv ho hp⟩
              · refine ax_bipush (v := (-2)) dX11_set_72 (by decide) ?_
                refine ax_iret dX11_set_74 rfl rfl (Nat.le_of_ble_eq_true rfl) (Nat.le_of_ble_eq_true rfl) ?_
                have e9 : seA W (nI p) b x = ((-2), W) := by unfold seA; (try rw [if_neg c_8]); (try rw [if_neg c_16]); (try rw [if_neg c_22]); (try rw [if_neg c_31]); (try rw [if_neg c_42]); (try rw [if_neg c_52]); (try rw [if_pos c_69]); (try rw [nI_clamp (by omega)]); (try unfold seR); (try rw [if_neg c_8]); (try rw [if_neg c_16]); (try rw [if_neg c_22]); (try rw [if_neg c_31]); (try rw [if_neg c_42]); (try rw [if_neg c_52]); (try rw [if_pos c_69]); first | done | rfl
                rw [e9]
                exact ⟨rfl, MV_same hv⟩
            · exact absurd c_52 c_31
          · exact absurd c_42 c_22
        · refine ax_iconst (v := 4) dX11_set_34 (by decide) ?_
          refine ax_goto (tgt := 39) dX11_set_35 (by decide) ?_
          refine ax_istore dX11_set_39 (by decide) rfl ?_
          refine ax_iload_n (i := 2) dX11_set_41 rfl rfl ?_
          refine ax_if_ne (tgt := 50) dX11_set_42 (by decide) (fun c_42 => ?_) (fun c_42 => ?_)
          · refine ax_iload_n (i := 2) dX11_set_50 rfl rfl ?_
            refine ax_iconst (v := 1) dX11_set_51 (by decide) ?_
            refine ax_icmp_ne (tgt := 60) dX11_set_52 (by decide) (fun c_52 => ?_) (fun c_52 => ?_)
            · exact absurd c_31 c_52
            · refine ax_bipush (v := 99) dX11_set_55 (by decide) ?_
              refine ax_goto (tgt := 61) dX11_set_57 (by decide) ?_
              refine ax_istore dX11_set_61 (by decide) rfl ?_
              refine ax_iload_n (i := 3) dX11_set_63 rfl rfl ?_
              refine ax_iload dX11_set_64 rfl ?_
              refine ax_cSv dX11_set_66 lk_X11_53 (c_X11_within x 99) rfl rfl (Nat.le_of_ble_eq_true rfl) (Nat.le_of_ble_eq_true rfl) (Nat.le_of_ble_eq_true rfl) (Nat.le_of_ble_eq_true rfl) ?_
              refine ax_if_ne (tgt := 75) dX11_set_69 (by decide) (fun c_69 => ?_) (fun c_69 => ?_)
              · refine ax_aload_n (i := 0) dX11_set_75 rfl rfl ?_
                refine ax_getR dX11_set_76 fl_X11_14 rfl (OKs hZ rfl) (OKr hZ rfl) ?_
                refine ax_getR dX11_set_79 fl_X11_87 rfl (OKs hZ rfl) (OKr hZ rfl) ?_
                refine ax_iload_n (i := 1) dX11_set_82 rfl rfl ?_
                refine ax_aaldN p (t0 := 5) dX11_set_83 (OKs hZ rfl) rfl (fun _ => rfl) rfl hp6 (by decide) (Wrf (isW24 hZ) hp6) ?_
                refine ax_iload dX11_set_84 rfl ?_
                refine ax_iload_n (i := 3) dX11_set_86 rfl rfl ?_
                refine ax_cSv dX11_set_87 lk_X11_91 (c_X11_swap (Wrow (isW24 hZ) hp6) (by decide) 4 (by decide) _ x rfl) rfl rfl (Nat.le_of_ble_eq_true rfl) (Nat.le_of_ble_eq_true rfl) (Nat.le_of_ble_eq_true rfl) (Nat.le_of_ble_eq_true rfl) ?_
                refine ax_iret dX11_set_90 rfl rfl (Nat.le_of_ble_eq_true rfl) (Nat.le_of_ble_eq_true rfl) ?_
                have e9 : seA W (nI p) b x = (W.C p 4, setV W p 4 x) := by unfold seA; (try rw [if_neg c_8]); (try rw [if_neg c_16]); (try rw [if_neg c_22]); (try rw [if_pos c_31]); (try rw [if_neg c_42]); (try rw [if_pos c_52]); (try rw [if_neg c_69]); (try rw [nI_clamp (by omega)]); (try unfold seR); (try rw [if_neg c_8]); (try rw [if_neg c_16]); (try rw [if_neg c_22]); (try rw [if_pos c_31]); (try rw [if_neg c_42]); (try rw [if_pos c_52]); (try rw [if_neg c_69])
                rw [e9]
                exact ⟨congrArg (fun z => some (Value.int z)) (hv.2.2.1 p hp 4 (by decide)), mv_set hv ho hp⟩
              · refine ax_bipush (v := (-2)) dX11_set_72 (by decide) ?_
                refine ax_iret dX11_set_74 rfl rfl (Nat.le_of_ble_eq_true rfl) (Nat.le_of_ble_eq_true rfl) ?_
                have e9 : seA W (nI p) b x = ((-2), W) := by unfold seA; (try rw [if_neg c_8]); (try rw [if_neg c_16]); (try rw [if_neg c_22]); (try rw [if_pos c_31]); (try rw [if_neg c_42]); (try rw [if_pos c_52]); (try rw [if_pos c_69]); (try rw [nI_clamp (by omega)]); (try unfold seR); (try rw [if_neg c_8]); (try rw [if_neg c_16]); (try rw [if_neg c_22]); (try rw [if_pos c_31]); (try rw [if_neg c_42]); (try rw [if_pos c_52]); (try rw [if_pos c_69]); first | done | rfl
                rw [e9]
                exact ⟨rfl, MV_same hv⟩
          · exact absurd c_42 c_22
      · refine ax_iconst (v := 2) dX11_set_25 (by decide) ?_
        refine ax_goto (tgt := 39) dX11_set_26 (by decide) ?_
        refine ax_istore dX11_set_39 (by decide) rfl ?_
        refine ax_iload_n (i := 2) dX11_set_41 rfl rfl ?_
        refine ax_if_ne (tgt := 50) dX11_set_42 (by decide) (fun c_42 => ?_) (fun c_42 => ?_)
        · exact absurd c_22 c_42
        · refine ax_bipush (v := 20) dX11_set_45 (by decide) ?_
          refine ax_goto (tgt := 61) dX11_set_47 (by decide) ?_
          refine ax_istore dX11_set_61 (by decide) rfl ?_
          refine ax_iload_n (i := 3) dX11_set_63 rfl rfl ?_
          refine ax_iload dX11_set_64 rfl ?_
          refine ax_cSv dX11_set_66 lk_X11_53 (c_X11_within x 20) rfl rfl (Nat.le_of_ble_eq_true rfl) (Nat.le_of_ble_eq_true rfl) (Nat.le_of_ble_eq_true rfl) (Nat.le_of_ble_eq_true rfl) ?_
          refine ax_if_ne (tgt := 75) dX11_set_69 (by decide) (fun c_69 => ?_) (fun c_69 => ?_)
          · refine ax_aload_n (i := 0) dX11_set_75 rfl rfl ?_
            refine ax_getR dX11_set_76 fl_X11_14 rfl (OKs hZ rfl) (OKr hZ rfl) ?_
            refine ax_getR dX11_set_79 fl_X11_87 rfl (OKs hZ rfl) (OKr hZ rfl) ?_
            refine ax_iload_n (i := 1) dX11_set_82 rfl rfl ?_
            refine ax_aaldN p (t0 := 5) dX11_set_83 (OKs hZ rfl) rfl (fun _ => rfl) rfl hp6 (by decide) (Wrf (isW24 hZ) hp6) ?_
            refine ax_iload dX11_set_84 rfl ?_
            refine ax_iload_n (i := 3) dX11_set_86 rfl rfl ?_
            refine ax_cSv dX11_set_87 lk_X11_91 (c_X11_swap (Wrow (isW24 hZ) hp6) (by decide) 2 (by decide) _ x rfl) rfl rfl (Nat.le_of_ble_eq_true rfl) (Nat.le_of_ble_eq_true rfl) (Nat.le_of_ble_eq_true rfl) (Nat.le_of_ble_eq_true rfl) ?_
            refine ax_iret dX11_set_90 rfl rfl (Nat.le_of_ble_eq_true rfl) (Nat.le_of_ble_eq_true rfl) ?_
            have e9 : seA W (nI p) b x = (W.C p 2, setV W p 2 x) := by unfold seA; (try rw [if_neg c_8]); (try rw [if_neg c_16]); (try rw [if_pos c_22]); (try rw [if_pos c_42]); (try rw [if_neg c_69]); (try rw [nI_clamp (by omega)]); (try unfold seR); (try rw [if_neg c_8]); (try rw [if_neg c_16]); (try rw [if_pos c_22]); (try rw [if_pos c_42]); (try rw [if_neg c_69])
            rw [e9]
            exact ⟨congrArg (fun z => some (Value.int z)) (hv.2.2.1 p hp 2 (by decide)), mv_set hv ho hp⟩
          · refine ax_bipush (v := (-2)) dX11_set_72 (by decide) ?_
            refine ax_iret dX11_set_74 rfl rfl (Nat.le_of_ble_eq_true rfl) (Nat.le_of_ble_eq_true rfl) ?_
            have e9 : seA W (nI p) b x = ((-2), W) := by unfold seA; (try rw [if_neg c_8]); (try rw [if_neg c_16]); (try rw [if_pos c_22]); (try rw [if_pos c_42]); (try rw [if_pos c_69]); (try rw [nI_clamp (by omega)]); (try unfold seR); (try rw [if_neg c_8]); (try rw [if_neg c_16]); (try rw [if_pos c_22]); (try rw [if_pos c_42]); (try rw [if_pos c_69]); first | done | rfl
            rw [e9]
            exact ⟨rfl, MV_same hv⟩
    · refine ax_iconst (v := (-1)) dX11_set_19 (by decide) ?_
      refine ax_iret dX11_set_20 rfl rfl (Nat.le_of_ble_eq_true rfl) (Nat.le_of_ble_eq_true rfl) ?_
      have e9 : seA W (nI p) b x = ((-1), W) := by unfold seA; (try rw [if_neg c_8]); (try rw [if_pos c_16]); (try rw [nI_clamp (by omega)]); (try unfold seR); (try rw [if_neg c_8]); (try rw [if_pos c_16]); first | done | rfl
      rw [e9]
      exact ⟨rfl, MV_same hv⟩
theorem k_row {Z : Zt} {G : Gt} {L : Lt} {W : Wv} (hZ : OK Z) (hv : vC Z G 24 W) (ho : okW W) (a b x : Int32) : AC mX11_row 3 0 0 [.ref 0, .int a, .int b, .int x] Z G L (RP (.int (roA W a b x).1) (MV Z G L (roA W a b x).2)) := by
  refine AC.intro (by decide +kernel) (Nat.le_of_ble_eq_true rfl) ?_
  refine ax_lv [(0, .ref 0), (1, .int a), (2, .int b), (3, .int x)] ⟨rfl, rfl, rfl, rfl, trivial⟩ ?_
  refine ax_aload_n (i := 0) dX11_row_0 rfl rfl ?_
  refine ax_getR dX11_row_1 fl_X11_14 rfl (OKs hZ rfl) (OKr hZ rfl) ?_
  refine ax_iload_n (i := 1) dX11_row_4 rfl rfl ?_
  refine ax_cVv dX11_row_5 lk_X11_65 (k_has (isW24 hZ) (trP_vC (trP_refl (Z := Z) (G := G)) hv ho.1 (Or.inl rfl)) a) rfl (OKs hZ rfl) ⟨_, rfl, rfl⟩ rfl (Nat.le_of_ble_eq_true rfl) (Nat.le_of_ble_eq_true rfl) (Nat.le_of_ble_eq_true rfl) (Nat.le_of_ble_eq_true rfl) ?_
  refine ax_if_eq (tgt := 19) dX11_row_8 (by decide) (fun c_8 => ?_) (fun c_8 => ?_)
  · refine ax_iconst (v := (-1)) dX11_row_19 (by decide) ?_
    refine ax_iret dX11_row_20 rfl rfl (Nat.le_of_ble_eq_true rfl) (Nat.le_of_ble_eq_true rfl) ?_
    have e9 : roA W a b x = (-1, W) := by unfold roA; rw [if_pos c_8]
    rw [e9]
    exact ⟨rfl, MV_same hv⟩
  · obtain ⟨p, hp, rfl⟩ := has_p ho.1 c_8
    have hp6 : p < 6 := by have := ho.1; omega
    refine ax_iload_n (i := 2) dX11_row_11 rfl rfl ?_
    refine ax_iconst (v := 3) dX11_row_12 (by decide) ?_
    refine ax_cSv dX11_row_13 lk_X11_53 (c_X11_within b 3) rfl rfl (Nat.le_of_ble_eq_true rfl) (Nat.le_of_ble_eq_true rfl) (Nat.le_of_ble_eq_true rfl) (Nat.le_of_ble_eq_true rfl) ?_
    refine ax_if_ne (tgt := 21) dX11_row_16 (by decide) (fun c_16 => ?_) (fun c_16 => ?_)
    · obtain ⟨q, hq3, rfl⟩ := wi_n (k := 3) (by decide) c_16
      refine ax_iload_n (i := 3) dX11_row_21 rfl rfl ?_
      refine ax_bipush (v := 9) dX11_row_22 (by decide) ?_
      refine ax_cSv dX11_row_24 lk_X11_53 (c_X11_within x 9) rfl rfl (Nat.le_of_ble_eq_true rfl) (Nat.le_of_ble_eq_true rfl) (Nat.le_of_ble_eq_true rfl) (Nat.le_of_ble_eq_true rfl) ?_
      refine ax_if_ne (tgt := 33) dX11_row_27 (by decide) (fun c_27 => ?_) (fun c_27 => ?_)
      · refine ax_aload_n (i := 0) dX11_row_33 rfl rfl ?_
        refine ax_getR dX11_row_34 fl_X11_14 rfl (OKs hZ rfl) (OKr hZ rfl) ?_
        refine ax_getR dX11_row_37 fl_X11_87 rfl (OKs hZ rfl) (OKr hZ rfl) ?_
        refine ax_iload_n (i := 1) dX11_row_40 rfl rfl ?_
        refine ax_aaldN p (t0 := 5) dX11_row_41 (OKs hZ rfl) rfl (fun _ => rfl) rfl hp6 (by decide) (Wrf (isW24 hZ) hp6) ?_
        refine ax_iconst (v := 0) dX11_row_42 (by decide) ?_
        refine ax_ialdN 0 dX11_row_43 (Wrow (isW24 hZ) hp6) rfl (by decide) (by decide) ?_
        refine ax_bipush (v := 6) dX11_row_44 (by decide) ?_
        refine ax_icmp_eq (tgt := 52) dX11_row_46 (by decide) (fun c_46 => ?_) (fun c_46 => ?_)
        · refine ax_aload_n (i := 0) dX11_row_52 rfl rfl ?_
          refine ax_getR dX11_row_53 fl_X11_14 rfl (OKs hZ rfl) (OKr hZ rfl) ?_
          refine ax_getR dX11_row_56 fl_X11_87 rfl (OKs hZ rfl) (OKr hZ rfl) ?_
          refine ax_iload_n (i := 1) dX11_row_59 rfl rfl ?_
          refine ax_aaldN p (t0 := 5) dX11_row_60 (OKs hZ rfl) rfl (fun _ => rfl) rfl hp6 (by decide) (Wrf (isW24 hZ) hp6) ?_
          refine ax_bipush (v := 6) dX11_row_61 (by decide) ?_
          refine ax_iload_n (i := 2) dX11_row_63 rfl rfl ?_
          refine ax_iadd dX11_row_64 ?_
          refine ax_iload_n (i := 3) dX11_row_65 rfl rfl ?_
          refine ax_cSv dX11_row_66 lk_X11_91 (c_X11_swap (Wrow (isW24 hZ) hp6) (by decide) (6 + q) (by omega) _ x (nI_add 6 q)) rfl rfl (Nat.le_of_ble_eq_true rfl) (Nat.le_of_ble_eq_true rfl) (Nat.le_of_ble_eq_true rfl) (Nat.le_of_ble_eq_true rfl) ?_
          refine ax_iret dX11_row_69 rfl rfl (Nat.le_of_ble_eq_true rfl) (Nat.le_of_ble_eq_true rfl) ?_
          have c9 := c_46
          rw [hv.2.2.1 p hp 0 (by decide)] at c9
          have e9 : roA W (nI p) (nI q) x = (W.C p (6 + q), setV W p (6 + q) x) := by unfold roA; rw [if_neg c_8, if_neg c_16, if_neg c_27, nI_clamp (by omega), nI_clamp (by omega), if_pos c9]
          rw [e9]
          exact ⟨congrArg (fun z => some (Value.int z)) (hv.2.2.1 p hp (6 + q) (by omega)), mv_set hv ho hp⟩
        · refine ax_bipush (v := (-3)) dX11_row_49 (by decide) ?_
          refine ax_iret dX11_row_51 rfl rfl (Nat.le_of_ble_eq_true rfl) (Nat.le_of_ble_eq_true rfl) ?_
          have c9 := c_46
          rw [hv.2.2.1 p hp 0 (by decide)] at c9
          have e9 : roA W (nI p) (nI q) x = (-3, W) := by unfold roA; rw [if_neg c_8, if_neg c_16, if_neg c_27, nI_clamp (by omega), if_neg c9]
          rw [e9]
          exact ⟨rfl, MV_same hv⟩
      · refine ax_bipush (v := (-2)) dX11_row_30 (by decide) ?_
        refine ax_iret dX11_row_32 rfl rfl (Nat.le_of_ble_eq_true rfl) (Nat.le_of_ble_eq_true rfl) ?_
        have e9 : roA W (nI p) (nI q) x = (-2, W) := by unfold roA; rw [if_neg c_8, if_neg c_16, if_pos c_27]
        rw [e9]
        exact ⟨rfl, MV_same hv⟩
    · refine ax_iconst (v := (-1)) dX11_row_19 (by decide) ?_
      refine ax_iret dX11_row_20 rfl rfl (Nat.le_of_ble_eq_true rfl) (Nat.le_of_ble_eq_true rfl) ?_
      have e9 : roA W (nI p) b x = (-1, W) := by unfold roA; rw [if_neg c_8, if_pos c_16]
      rw [e9]
      exact ⟨rfl, MV_same hv⟩
theorem minN_w {Z : Zt} {w m i : Nat} (hw : w < 100) (hm : m ≤ 6) (h : i ≠ 15) : ∀ (n mm : Nat) (G : Gt), minN Z w m n mm G w i = G w i
  | 0, _, _ => rfl
  | n + 1, mm, G => by
    unfold minN
    rw [minN_w hw hm h n]
    unfold min1
    rw [up2_i h, gdW_o (by omega)]
theorem k_pass {Z : Zt} {G : Gt} {L : Lt} {W : Wv} (hZ : OK Z) (hv : vC Z G 24 W) (ho : okW W) (hm : W.mm + 60 < 20000) (a : Int32) : AC mX11_pass 4 0 0 [.ref 0, .int a] Z G L (RP (.int (paA W a).1) (MV Z G L (paA W a).2)) := by
  refine AC.intro (by decide +kernel) (Nat.le_of_ble_eq_true rfl) ?_
  refine ax_lv [(0, .ref 0), (1, .int a)] ⟨rfl, rfl, trivial⟩ ?_
  refine ax_iload_n (i := 1) dX11_pass_0 rfl rfl ?_
  refine ax_bipush (v := 60) dX11_pass_1 (by decide) ?_
  refine ax_cSv dX11_pass_3 lk_X11_53 (c_X11_within a 60) rfl rfl (Nat.le_of_ble_eq_true rfl) (Nat.le_of_ble_eq_true rfl) (Nat.le_of_ble_eq_true rfl) (Nat.le_of_ble_eq_true rfl) ?_
  refine ax_if_ne (tgt := 12) dX11_pass_6 (by decide) (fun c_6 => ?_) (fun c_6 => ?_)
  · obtain ⟨q, hq, rfl⟩ := wi_n (k := 60) (by decide) c_6
    refine ax_aload_n (i := 0) dX11_pass_12 rfl rfl ?_
    refine ax_getR dX11_pass_13 fl_X11_14 rfl (OKs hZ rfl) (OKr hZ rfl) ?_
    refine ax_getI dX11_pass_16 fl_X11_143 rfl (OKs hZ rfl) ?_
    refine ax_iload_n (i := 1) dX11_pass_19 rfl rfl ?_
    refine ax_iadd dX11_pass_20 ?_
    refine ax_sipush (v := 9999) dX11_pass_21 (by decide) ?_
    refine ax_icmp_le (tgt := 30) dX11_pass_24 (by decide) (fun c_24 => ?_) (fun c_24 => ?_)
    · refine ax_aload_n (i := 0) dX11_pass_30 rfl rfl ?_
      refine ax_getR dX11_pass_31 fl_X11_14 rfl (OKs hZ rfl) (OKr hZ rfl) ?_
      refine ax_iload_n (i := 1) dX11_pass_34 rfl rfl ?_
      refine ax_cV0 dX11_pass_35 lk_X11_158 (c_minutesGo hZ (isW24 hZ) (vC_wOK hv ho) q (by omega) (by omega)) rfl (OKs hZ rfl) ⟨_, rfl, rfl⟩ rfl (Nat.le_of_ble_eq_true rfl) (Nat.le_of_ble_eq_true rfl) (Nat.le_of_ble_eq_true rfl) (Nat.le_of_ble_eq_true rfl) ?_
      refine ax_aload_n (i := 0) dX11_pass_38 rfl rfl ?_
      refine ax_getR dX11_pass_39 fl_X11_14 rfl (OKs hZ rfl) (OKr hZ rfl) ?_
      refine ax_getI dX11_pass_42 fl_X11_143 rfl (OKs hZ rfl) ?_
      refine ax_iret dX11_pass_45 rfl rfl (Nat.le_of_ble_eq_true rfl) (Nat.le_of_ble_eq_true rfl) ?_
      have c9 := c_24
      rw [hv.2.1] at c9
      have e9 : paA W (nI q) = (nI (W.mm + q), minVN q W) := by unfold paA; rw [if_neg c_6, if_pos c9, nI_clamp (by omega)]
      rw [e9]
      have hv' := vC_minN (Z := Z) (w := 24) (by decide) q hv ho.1
      have hmm := hv'.2.1
      rw [minVN_mm] at hmm
      exact ⟨congrArg (fun z => some (Value.int z)) hmm, rfl, rfl, hv', fun a ha => minN_f (by omega) ho.1 _ _ _, fun i h1 h2 => minN_w (by decide) ho.1 h2 _ _ _⟩
    · refine ax_bipush (v := (-3)) dX11_pass_27 (by decide) ?_
      refine ax_iret dX11_pass_29 rfl rfl (Nat.le_of_ble_eq_true rfl) (Nat.le_of_ble_eq_true rfl) ?_
      have c9 := c_24
      rw [hv.2.1] at c9
      have e9 : paA W (nI q) = (-3, W) := by unfold paA; rw [if_neg c_6, if_neg c9]
      rw [e9]
      exact ⟨rfl, MV_same hv⟩
  · refine ax_bipush (v := (-2)) dX11_pass_9 (by decide) ?_
    refine ax_iret dX11_pass_11 rfl rfl (Nat.le_of_ble_eq_true rfl) (Nat.le_of_ble_eq_true rfl) ?_
    have e9 : paA W a = (-2, W) := by unfold paA; rw [if_pos c_6]
    rw [e9]
    exact ⟨rfl, MV_same hv⟩
theorem ignG_w {Z : Zt} {G : Gt} {w m mm p i : Nat} (hp : p < 6) : ignG Z w m mm p G w i = G w i := by
  unfold ignG
  by_cases c : lightW Z G w m mm p ≤ 0
  · rw [if_pos c, up2_k (by omega)]
  · rw [if_neg c, up2_k (by omega), up2_k (by omega)]
theorem k_light {Z : Zt} {G : Gt} {L : Lt} {W : Wv} (hZ : OK Z) (hv : vC Z G 24 W) (ho : okW W) (a : Int32) : AC mX11_light 6 0 0 [.ref 0, .int a] Z G L (RP (.int (liA W a).1) (MV Z G L (liA W a).2)) := by
  refine AC.intro (by decide +kernel) (Nat.le_of_ble_eq_true rfl) ?_
  refine ax_lv [(0, .ref 0), (1, .int a)] ⟨rfl, rfl, trivial⟩ ?_
  refine ax_aload_n (i := 0) dX11_light_0 rfl rfl ?_
  refine ax_getR dX11_light_1 fl_X11_14 rfl (OKs hZ rfl) (OKr hZ rfl) ?_
  refine ax_iload_n (i := 1) dX11_light_4 rfl rfl ?_
  refine ax_cVv dX11_light_5 lk_X11_65 (k_has (isW24 hZ) (trP_vC (trP_refl (Z := Z) (G := G)) hv ho.1 (Or.inl rfl)) a) rfl (OKs hZ rfl) ⟨_, rfl, rfl⟩ rfl (Nat.le_of_ble_eq_true rfl) (Nat.le_of_ble_eq_true rfl) (Nat.le_of_ble_eq_true rfl) (Nat.le_of_ble_eq_true rfl) ?_
  refine ax_if_ne (tgt := 13) dX11_light_8 (by decide) (fun c_8 => ?_) (fun c_8 => ?_)
  · obtain ⟨p, hp, rfl⟩ := has_p ho.1 c_8
    have hp6 : p < 6 := by have := ho.1; omega
    refine ax_aload_n (i := 0) dX11_light_13 rfl rfl ?_
    refine ax_getR dX11_light_14 fl_X11_14 rfl (OKs hZ rfl) (OKr hZ rfl) ?_
    refine ax_iload_n (i := 1) dX11_light_17 rfl rfl ?_
    refine ax_cVv dX11_light_18 lk_X11_95 (c_X10_isUnlit (isW24 hZ) p hp6) rfl (OKs hZ rfl) ⟨_, rfl, rfl⟩ rfl (Nat.le_of_ble_eq_true rfl) (Nat.le_of_ble_eq_true rfl) (Nat.le_of_ble_eq_true rfl) (Nat.le_of_ble_eq_true rfl) ?_
    refine ax_if_ne (tgt := 27) dX11_light_21 (by decide) (fun c_21 => ?_) (fun c_21 => ?_)
    · refine ax_aload_n (i := 0) dX11_light_27 rfl rfl ?_
      refine ax_getR dX11_light_28 fl_X11_14 rfl (OKs hZ rfl) (OKr hZ rfl) ?_
      refine ax_iload_n (i := 1) dX11_light_31 rfl rfl ?_
      refine ax_cVv dX11_light_32 lk_X11_98 (c_ignite hZ (isW24 hZ) (vC_wOK hv ho) p hp) rfl (OKs hZ rfl) ⟨_, rfl, rfl⟩ rfl (Nat.le_of_ble_eq_true rfl) (Nat.le_of_ble_eq_true rfl) (Nat.le_of_ble_eq_true rfl) (Nat.le_of_ble_eq_true rfl) ?_
      refine ax_iret dX11_light_35 rfl rfl (Nat.le_of_ble_eq_true rfl) (Nat.le_of_ble_eq_true rfl) ?_
      have c9 := bi_ne.mp c_21
      rw [hv.2.2.1 p hp 5 (by decide)] at c9
      have e9 : liA W (nI p) = (if lightV W p ≤ 0 then 1 else 2, litV W p) := by unfold liA; rw [if_neg c_8, nI_clamp (by omega), if_pos c9]
      rw [e9]
      exact ⟨congrArg (fun z => some (Value.int z)) (by unfold ignR; rw [vC_light hv hp]), rfl, rfl, vC_ign hv ho (by decide) hp, fun a ha => ignG_f (by omega) hp6, fun i h1 h2 => ignG_w hp6⟩
    · refine ax_bipush (v := (-3)) dX11_light_24 (by decide) ?_
      refine ax_iret dX11_light_26 rfl rfl (Nat.le_of_ble_eq_true rfl) (Nat.le_of_ble_eq_true rfl) ?_
      have c9 := bi_eq.mp c_21
      rw [hv.2.2.1 p hp 5 (by decide)] at c9
      have e9 : liA W (nI p) = (-3, W) := by unfold liA; rw [if_neg c_8, nI_clamp (by omega), if_neg c9]
      rw [e9]
      exact ⟨rfl, MV_same hv⟩
  · refine ax_iconst (v := (-1)) dX11_light_11 (by decide) ?_
    refine ax_iret dX11_light_12 rfl rfl (Nat.le_of_ble_eq_true rfl) (Nat.le_of_ble_eq_true rfl) ?_
    have e9 : liA W a = (-1, W) := by unfold liA; rw [if_pos c_8]
    rw [e9]
    exact ⟨rfl, MV_same hv⟩
def fillF {α : Type} (f : Nat → α) (x : α) (q : Nat) : Nat → α := fun i => if i < q then x else f i
theorem fillF_s {α : Type} {G : Nat → Nat → α} {k q : Nat} {x : α} : up2 (upr G k (fillF (G k) x q)) k q x = upr G k (fillF (G k) x (q + 1)) := by
  funext a i
  by_cases e : a = k
  · subst e
    rw [upr_s]
    unfold up2 fillF
    rw [if_pos rfl]
    by_cases f : i = q
    · rw [if_pos f, if_pos (by omega)]
    · rw [if_neg f, upr_s]
      by_cases g : i < q
      · rw [if_pos g, if_pos (by omega)]
      · rw [if_neg g, if_neg (by omega)]
  · rw [up2_k e, upr_n e, upr_n e]
theorem fillF_0 {α : Type} {G : Nat → Nat → α} {k : Nat} {x : α} : upr G k (fillF (G k) x 0) = G := by
  funext a
  by_cases e : a = k
  · rw [e, upr_s]; funext i; unfold fillF; rw [if_neg (by omega)]
  · rw [upr_n e]
theorem l_fill {Z : Zt} {G : Gt} {L : Lt} {Q : Qt} {k m9 : Nat} (hz : Z.2.1 k = some (.inr (.int, m9))) (hm9 : m9 < 1000000) (x : Int32) (hend : AX none mJ7_fill_53178 1 0 0 0 0 20 [] [] Z (upr G k (fillF (G k) x m9)) L Q) : ∀ (n q : Nat), q ≤ m9 → m9 - q < n → AX none mJ7_fill_53178 1 0 0 0 0 5 [(0, .ref k), (1, .int x), (2, .int (nI q)), (3, .int (nI m9))] [] Z (upr G k (fillF (G k) x q)) L Q := by
  intro n
  induction n with
  | zero => intro q h1 h2; omega
  | succ n ih =>
    intro q h1 h2
    refine ax_iload_n (i := 2) dJ7_fill_53178_5 rfl rfl ?_
    refine ax_iload_n (i := 3) dJ7_fill_53178_6 rfl rfl ?_
    refine ax_icmp_ge (tgt := 20) dJ7_fill_53178_7 (by decide) (fun c_7 => ?_) (fun c_7 => ?_)
    · obtain rfl : q = m9 := by have := (nI_leI (by omega) (by omega)).mp c_7; omega
      exact ax_lv [] trivial hend
    · have hqm : q < m9 := by have := mt (nI_leI (by omega) (by omega)).mpr c_7; omega
      refine ax_aload_n (i := 0) dJ7_fill_53178_10 rfl rfl ?_
      refine ax_iload_n (i := 2) dJ7_fill_53178_11 rfl rfl ?_
      refine ax_iload_n (i := 1) dJ7_fill_53178_12 rfl rfl ?_
      refine ax_iastN q dJ7_fill_53178_13 hz rfl hqm (by omega) ?_
      refine ax_iinc (v := (nI q) + 1) dJ7_fill_53178_14 rfl rfl (by decide) rfl ?_
      refine ax_goto (tgt := 5) dJ7_fill_53178_17 (by decide) ?_
      refine ax_G fillF_s ?_
      refine ax_lv [(0, .ref k), (1, .int x), (2, .int (nI (q + 1))), (3, .int (nI m9))] ⟨rfl, rfl, sI (nI_1 q), rfl, trivial⟩ ?_
      exact ih (q + 1) (by omega) (by omega)
theorem c_fill {Z : Zt} {G : Gt} {L : Lt} {k m9 : Nat} (hz : Z.2.1 k = some (.inr (.int, m9))) (hm9 : m9 < 1000000) (x : Int32) : AC mJ7_fill_53178 1 0 0 [.ref k, .int x] Z G L (DQ none Z (upr G k (fillF (G k) x m9)) L) := by
  refine AC.intro (by decide +kernel) (Nat.le_of_ble_eq_true rfl) ?_
  refine ax_lv [(0, .ref k), (1, .int x)] ⟨rfl, rfl, trivial⟩ ?_
  refine ax_iconst (v := 0) dJ7_fill_53178_0 (by decide) ?_
  refine ax_istore_n (i := 2) dJ7_fill_53178_1 rfl (by decide) rfl ?_
  refine ax_aload_n (i := 0) dJ7_fill_53178_2 rfl rfl ?_
  refine ax_alen (t0 := 0) (v := (nI m9)) dJ7_fill_53178_3 hz (fun _ => rfl) rfl ?_
  refine ax_istore_n (i := 3) dJ7_fill_53178_4 rfl (by decide) rfl ?_
  refine ax_lv [(0, .ref k), (1, .int x), (2, .int (nI 0)), (3, .int (nI m9))] ⟨rfl, rfl, rfl, rfl, trivial⟩ ?_
  refine ax_G (fillF_0 (G := G) (k := k) (x := x)).symm ?_
  refine l_fill hz hm9 x ?_ (m9 + 1) 0 (by omega) (by omega)
  refine ax_vret dJ7_fill_53178_20 rfl (Nat.le_of_ble_eq_true rfl) (Nat.le_of_ble_eq_true rfl) ?_
  exact ⟨rfl, rfl, rfl, rfl⟩
theorem ax_L {X : Option (Nat × (Nat → Int32))} {M : Mt} {d mc ms cu su pc : Nat} {lv : Lv} {st : List Value} {Z : Zt} {G : Gt} {L L' : Lt} {Q : Qt} (h : L = L') (k : AX X M d mc ms cu su pc lv st Z G L' Q) : AX X M d mc ms cu su pc lv st Z G L Q := h ▸ k
theorem l_fillL {Z : Zt} {G : Gt} {L : Lt} {Q : Qt} {k m9 : Nat} (hz : Z.2.1 k = some (.inr (.long, m9))) (hm9 : m9 < 1000000) (x : Int64) (hend : AX none mJ7_fill_d0a16 1 0 0 0 0 22 [] [] Z G (upr L k (fillF (L k) x m9)) Q) : ∀ (n q : Nat), q ≤ m9 → m9 - q < n → AX none mJ7_fill_d0a16 1 0 0 0 0 6 [(0, .ref k), (1, .long x), (3, .int (nI q)), (4, .int (nI m9))] [] Z G (upr L k (fillF (L k) x q)) Q := by
  intro n
  induction n with
  | zero => intro q h1 h2; omega
  | succ n ih =>
    intro q h1 h2
    refine ax_iload_n (i := 3) dJ7_fill_d0a16_6 rfl rfl ?_
    refine ax_iload dJ7_fill_d0a16_7 rfl ?_
    refine ax_icmp_ge (tgt := 22) dJ7_fill_d0a16_9 (by decide) (fun c_9 => ?_) (fun c_9 => ?_)
    · obtain rfl : q = m9 := by have := (nI_leI (by omega) (by omega)).mp c_9; omega
      exact ax_lv [] trivial hend
    · have hqm : q < m9 := by have := mt (nI_leI (by omega) (by omega)).mpr c_9; omega
      refine ax_aload_n (i := 0) dJ7_fill_d0a16_12 rfl rfl ?_
      refine ax_iload_n (i := 3) dJ7_fill_d0a16_13 rfl rfl ?_
      refine ax_lload_n (i := 1) dJ7_fill_d0a16_14 rfl rfl ?_
      refine ax_lastN q dJ7_fill_d0a16_15 hz rfl hqm (by omega) ?_
      refine ax_iinc (v := (nI q) + 1) dJ7_fill_d0a16_16 rfl rfl (by decide) rfl ?_
      refine ax_goto (tgt := 6) dJ7_fill_d0a16_19 (by decide) ?_
      refine ax_L fillF_s ?_
      refine ax_lv [(0, .ref k), (1, .long x), (3, .int (nI (q + 1))), (4, .int (nI m9))] ⟨rfl, rfl, sI (nI_1 q), rfl, trivial⟩ ?_
      exact ih (q + 1) (by omega) (by omega)
theorem c_fillL {Z : Zt} {G : Gt} {L : Lt} {k m9 : Nat} (hz : Z.2.1 k = some (.inr (.long, m9))) (hm9 : m9 < 1000000) (x : Int64) : AC mJ7_fill_d0a16 1 0 0 [.ref k, .long x] Z G L (DQ none Z G (upr L k (fillF (L k) x m9))) := by
  refine AC.intro (by decide +kernel) (Nat.le_of_ble_eq_true rfl) ?_
  refine ax_lv [(0, .ref k), (1, .long x)] ⟨rfl, rfl, trivial⟩ ?_
  refine ax_iconst (v := 0) dJ7_fill_d0a16_0 (by decide) ?_
  refine ax_istore_n (i := 3) dJ7_fill_d0a16_1 rfl (by decide) rfl ?_
  refine ax_aload_n (i := 0) dJ7_fill_d0a16_2 rfl rfl ?_
  refine ax_alen (t0 := 1) (v := (nI m9)) dJ7_fill_d0a16_3 hz (fun _ => rfl) rfl ?_
  refine ax_istore dJ7_fill_d0a16_4 (by decide) rfl ?_
  refine ax_lv [(0, .ref k), (1, .long x), (3, .int (nI 0)), (4, .int (nI m9))] ⟨rfl, rfl, rfl, rfl, trivial⟩ ?_
  refine ax_L (fillF_0 (G := L) (k := k) (x := x)).symm ?_
  refine l_fillL hz hm9 x ?_ (m9 + 1) 0 (by omega) (by omega)
  refine ax_vret dJ7_fill_d0a16_22 rfl (Nat.le_of_ble_eq_true rfl) (Nat.le_of_ble_eq_true rfl) ?_
  exact ⟨rfl, rfl, rfl, rfl⟩
theorem k_addRocket {Z : Zt} {G : Gt} {L : Lt} {W : Wv} (hZ : OK Z) (hv : vC Z G 24 W) (ho : okW W) (hm6 : W.m < 6) (a b c e : Int32) : AC mX10_addRocket 2 0 0 [.ref 24, .int a, .int b, .int c, .int e] Z G L (RP (.int (nI W.m)) (MV Z G L (newV W a b c e))) := by
  refine AC.intro (by decide +kernel) (Nat.le_of_ble_eq_true rfl) ?_
  refine ax_lv [(0, .ref 24), (1, .int a), (2, .int b), (3, .int c), (4, .int e)] ⟨rfl, rfl, rfl, rfl, rfl, trivial⟩ ?_
  refine ax_aload_n (i := 0) dX10_addRocket_0 rfl rfl ?_
  refine ax_getR dX10_addRocket_1 fl_X10_38 rfl (OKs hZ rfl) (OKr hZ rfl) ?_
  refine ax_aload_n (i := 0) dX10_addRocket_4 rfl rfl ?_
  refine ax_getI dX10_addRocket_5 fl_X10_69 rfl (OKs hZ rfl) ?_
  refine ax_aaldN W.m (t0 := 5) dX10_addRocket_8 (OKs hZ rfl) rfl (fun _ => rfl) hv.1 hm6 (by decide) (Wrf (isW24 hZ) hm6) ?_
  refine ax_astore dX10_addRocket_9 (by decide) rfl ?_
  refine ax_aload dX10_addRocket_11 rfl ?_
  refine ax_iconst (v := 0) dX10_addRocket_13 (by decide) ?_
  refine ax_cS0 dX10_addRocket_14 lk_X10_95 (c_fill (Wrow (isW24 hZ) hm6) (by decide) 0) rfl rfl (Nat.le_of_ble_eq_true rfl) (Nat.le_of_ble_eq_true rfl) (Nat.le_of_ble_eq_true rfl) (Nat.le_of_ble_eq_true rfl) ?_
  refine ax_aload dX10_addRocket_17 rfl ?_
  refine ax_iconst (v := 0) dX10_addRocket_19 (by decide) ?_
  refine ax_iload_n (i := 1) dX10_addRocket_20 rfl rfl ?_
  refine ax_iastN 0 dX10_addRocket_21 (Wrow (isW24 hZ) hm6) rfl (by decide) (by decide) ?_
  refine ax_aload dX10_addRocket_22 rfl ?_
  refine ax_iconst (v := 1) dX10_addRocket_24 (by decide) ?_
  refine ax_iload_n (i := 2) dX10_addRocket_25 rfl rfl ?_
  refine ax_iastN 1 dX10_addRocket_26 (Wrow (isW24 hZ) hm6) rfl (by decide) (by decide) ?_
  refine ax_aload dX10_addRocket_27 rfl ?_
  refine ax_iconst (v := 2) dX10_addRocket_29 (by decide) ?_
  refine ax_iload_n (i := 3) dX10_addRocket_30 rfl rfl ?_
  refine ax_iastN 2 dX10_addRocket_31 (Wrow (isW24 hZ) hm6) rfl (by decide) (by decide) ?_
  refine ax_aload dX10_addRocket_32 rfl ?_
  refine ax_iconst (v := 3) dX10_addRocket_34 (by decide) ?_
  refine ax_iload dX10_addRocket_35 rfl ?_
  refine ax_iastN 3 dX10_addRocket_37 (Wrow (isW24 hZ) hm6) rfl (by decide) (by decide) ?_
  refine ax_aload_n (i := 0) dX10_addRocket_38 rfl rfl ?_
  refine ax_dup dX10_addRocket_39 rfl ?_
  refine ax_getI dX10_addRocket_40 fl_X10_69 rfl (OKs hZ rfl) ?_
  refine ax_iconst (v := 1) dX10_addRocket_43 (by decide) ?_
  refine ax_iadd dX10_addRocket_44 ?_
  refine ax_putI dX10_addRocket_45 fl_X10_69 (Or.inl fp_X10_10_11) rfl rfl rfl (OKs hZ rfl) ?_
  refine ax_aload_n (i := 0) dX10_addRocket_48 rfl rfl ?_
  refine ax_getI dX10_addRocket_49 fl_X10_69 rfl (OKs hZ rfl) ?_
  refine ax_iconst (v := 1) dX10_addRocket_52 (by decide) ?_
  refine ax_isub dX10_addRocket_53 ?_
  refine ax_iret dX10_addRocket_54 rfl rfl (Nat.le_of_ble_eq_true rfl) (Nat.le_of_ble_eq_true rfl) ?_
  refine ⟨congrArg (fun z => some (Value.int z)) ?_, rfl, rfl, ?_, fun a ha => ?_, fun i h1 h2 => ?_⟩
  · rw [up2_s]
    repeat rw [up2_k (by omega)]
    rw [upr_n (by omega), hv.1, nI_1, nI_pred]
  · obtain ⟨a1, a2, a3, a4, a5, a6, a7, a8⟩ := id hv
    refine vC_step hv (fun a ha => ?_) ?_ ?_ (fun p hp i hi => ?_) (fun q hq => ?_) (fun q hq => ?_) rfl rfl
    · rw [up2_row (by omega), up2_row (by omega), up2_row (by omega), up2_row (by omega), up2_row (by omega), upr_n (by omega)]
    · rw [up2_s]
      repeat rw [up2_k (by omega)]
      rw [upr_n (by omega), a1]; exact nI_1 W.m
    · rw [up2_i (by decide)]
      repeat rw [up2_k (by omega)]
      rw [upr_n (by omega)]; exact a2
    · have hp : p < W.m + 1 := hp
      show _ = if p = W.m then _ else _
      rw [up2_k (by omega)]
      by_cases e : p = W.m
      · subst e
        rw [if_pos rfl]
        unfold up2
        rw [upr_s]
        unfold fillF
        simp only [if_true, hi]
        by_cases i0 : i = 0
        · subst i0; rfl
        by_cases i1 : i = 1
        · subst i1; rfl
        by_cases i2 : i = 2
        · subst i2; rfl
        by_cases i3 : i = 3
        · subst i3; rfl
        simp only [i0, i1, i2, i3, if_false, if_true, hi]
      · rw [if_neg e, up2_k (by omega), up2_k (by omega), up2_k (by omega), up2_k (by omega), upr_n (by omega)]
        exact a3 p (by omega) i hi
    · rw [up2_k (by omega), up2_k (by omega), up2_k (by omega), up2_k (by omega), up2_k (by omega), upr_n (by omega)]; exact a4 q hq
    · rw [up2_k (by omega), up2_k (by omega), up2_k (by omega), up2_k (by omega), up2_k (by omega), upr_n (by omega)]; exact a5 q hq
  · rw [up2_row (by omega), up2_row (by omega), up2_row (by omega), up2_row (by omega), up2_row (by omega), upr_n (by omega)]
  · rw [up2_i h1, up2_k (by omega), up2_k (by omega), up2_k (by omega), up2_k (by omega), upr_n (by omega)]
theorem k_rocket {Z : Zt} {G : Gt} {L : Lt} {W : Wv} (hZ : OK Z) (hv : vC Z G 24 W) (ho : okW W) (a b c e : Int32) : AC mX11_rocket 3 0 0 [.ref 0, .int a, .int b, .int c, .int e] Z G L (RP (.int (nwA W a b c e).1) (MV Z G L (nwA W a b c e).2)) := by
  refine AC.intro (by decide +kernel) (Nat.le_of_ble_eq_true rfl) ?_
  refine ax_lv [(0, .ref 0), (1, .int a), (2, .int b), (3, .int c), (4, .int e)] ⟨rfl, rfl, rfl, rfl, rfl, trivial⟩ ?_
  have hm9 := ho.1
  refine ax_iload_n (i := 1) dX11_rocket_0 rfl rfl ?_
  refine ax_bipush (v := 6) dX11_rocket_1 (by decide) ?_
  refine ax_cSv dX11_rocket_3 lk_X11_53 (c_X11_within a 6) rfl rfl (Nat.le_of_ble_eq_true rfl) (Nat.le_of_ble_eq_true rfl) (Nat.le_of_ble_eq_true rfl) (Nat.le_of_ble_eq_true rfl) ?_
  refine ax_if_eq (tgt := 18) dX11_rocket_6 (by decide) (fun c_6 => ?_) (fun c_6 => ?_)
  · refine ax_iconst (v := (-1)) dX11_rocket_18 (by decide) ?_
    refine ax_iret dX11_rocket_19 rfl rfl (Nat.le_of_ble_eq_true rfl) (Nat.le_of_ble_eq_true rfl) ?_
    have e9 : nwA W a b c e = ((-1), W) := by unfold nwA; (try rw [if_pos c_6]); first | done | rfl
    rw [e9]
    exact ⟨rfl, MV_same hv⟩
  · refine ax_iload dX11_rocket_9 rfl ?_
    refine ax_iconst (v := 3) dX11_rocket_11 (by decide) ?_
    refine ax_cSv dX11_rocket_12 lk_X11_53 (c_X11_within e 3) rfl rfl (Nat.le_of_ble_eq_true rfl) (Nat.le_of_ble_eq_true rfl) (Nat.le_of_ble_eq_true rfl) (Nat.le_of_ble_eq_true rfl) ?_
    refine ax_if_ne (tgt := 20) dX11_rocket_15 (by decide) (fun c_15 => ?_) (fun c_15 => ?_)
    · refine ax_iload_n (i := 2) dX11_rocket_20 rfl rfl ?_
      refine ax_bipush (v := 9) dX11_rocket_21 (by decide) ?_
      refine ax_cSv dX11_rocket_23 lk_X11_53 (c_X11_within b 9) rfl rfl (Nat.le_of_ble_eq_true rfl) (Nat.le_of_ble_eq_true rfl) (Nat.le_of_ble_eq_true rfl) (Nat.le_of_ble_eq_true rfl) ?_
      refine ax_if_eq (tgt := 38) dX11_rocket_26 (by decide) (fun c_26 => ?_) (fun c_26 => ?_)
      · refine ax_bipush (v := (-2)) dX11_rocket_38 (by decide) ?_
        refine ax_iret dX11_rocket_40 rfl rfl (Nat.le_of_ble_eq_true rfl) (Nat.le_of_ble_eq_true rfl) ?_
        have e9 : nwA W a b c e = ((-2), W) := by unfold nwA; (try rw [if_neg c_6]); (try rw [if_neg c_15]); (try rw [if_pos c_26]); first | done | rfl
        rw [e9]
        exact ⟨rfl, MV_same hv⟩
      · refine ax_iload_n (i := 3) dX11_rocket_29 rfl rfl ?_
        refine ax_bipush (v := 20) dX11_rocket_30 (by decide) ?_
        refine ax_cSv dX11_rocket_32 lk_X11_53 (c_X11_within c 20) rfl rfl (Nat.le_of_ble_eq_true rfl) (Nat.le_of_ble_eq_true rfl) (Nat.le_of_ble_eq_true rfl) (Nat.le_of_ble_eq_true rfl) ?_
        refine ax_if_ne (tgt := 41) dX11_rocket_35 (by decide) (fun c_35 => ?_) (fun c_35 => ?_)
        · refine ax_aload_n (i := 0) dX11_rocket_41 rfl rfl ?_
          refine ax_getR dX11_rocket_42 fl_X11_14 rfl (OKs hZ rfl) (OKr hZ rfl) ?_
          refine ax_getI dX11_rocket_45 fl_X11_57 rfl (OKs hZ rfl) ?_
          refine ax_bipush (v := 6) dX11_rocket_48 (by decide) ?_
          refine ax_icmp_lt (tgt := 56) dX11_rocket_50 (by decide) (fun c_50 => ?_) (fun c_50 => ?_)
          · refine ax_aload_n (i := 0) dX11_rocket_56 rfl rfl ?_
            refine ax_getR dX11_rocket_57 fl_X11_14 rfl (OKs hZ rfl) (OKr hZ rfl) ?_
            refine ax_iload_n (i := 1) dX11_rocket_60 rfl rfl ?_
            refine ax_iload_n (i := 2) dX11_rocket_61 rfl rfl ?_
            refine ax_iload_n (i := 3) dX11_rocket_62 rfl rfl ?_
            refine ax_iload dX11_rocket_63 rfl ?_
            refine ax_cVq dX11_rocket_65 lk_X11_61 (k_addRocket hZ hv ho (by have := (nI_ltI (by omega) (by decide)).mp (show nI W.m < nI 6 by rw [← hv.1]; exact c_50); omega) a b c e) rfl (OKs hZ rfl) ⟨_, rfl, rfl⟩ rfl (Nat.le_of_ble_eq_true rfl) (Nat.le_of_ble_eq_true rfl) (Nat.le_of_ble_eq_true rfl) (Nat.le_of_ble_eq_true rfl) ?_
            rintro Z1 G1 L1 mv1
            obtain ⟨rfl, rfl, -⟩ := id mv1
            refine ax_iret dX11_rocket_68 rfl rfl (Nat.le_of_ble_eq_true rfl) (Nat.le_of_ble_eq_true rfl) ?_
            have c9 := c_50
            rw [hv.1] at c9
            have e9 : nwA W a b c e = (nI W.m, newV W a b c e) := by unfold nwA; (try rw [if_neg c_6]); (try rw [if_neg c_15]); (try rw [if_neg c_26]); (try rw [if_neg c_35]); (try rw [if_pos c_50]); rw [if_pos c9]
            rw [e9]
            exact ⟨rfl, mv1⟩
          · refine ax_bipush (v := (-4)) dX11_rocket_53 (by decide) ?_
            refine ax_iret dX11_rocket_55 rfl rfl (Nat.le_of_ble_eq_true rfl) (Nat.le_of_ble_eq_true rfl) ?_
            have c9 := c_50
            rw [hv.1] at c9
            have e9 : nwA W a b c e = (-4, W) := by unfold nwA; (try rw [if_neg c_6]); (try rw [if_neg c_15]); (try rw [if_neg c_26]); (try rw [if_neg c_35]); (try rw [if_neg c_50]); rw [if_neg c9]
            rw [e9]
            exact ⟨rfl, MV_same hv⟩
        · refine ax_bipush (v := (-2)) dX11_rocket_38 (by decide) ?_
          refine ax_iret dX11_rocket_40 rfl rfl (Nat.le_of_ble_eq_true rfl) (Nat.le_of_ble_eq_true rfl) ?_
          have e9 : nwA W a b c e = ((-2), W) := by unfold nwA; (try rw [if_neg c_6]); (try rw [if_neg c_15]); (try rw [if_neg c_26]); (try rw [if_pos c_35]); first | done | rfl
          rw [e9]
          exact ⟨rfl, MV_same hv⟩
    · refine ax_iconst (v := (-1)) dX11_rocket_18 (by decide) ?_
      refine ax_iret dX11_rocket_19 rfl rfl (Nat.le_of_ble_eq_true rfl) (Nat.le_of_ble_eq_true rfl) ?_
      have e9 : nwA W a b c e = ((-1), W) := by unfold nwA; (try rw [if_neg c_6]); (try rw [if_pos c_15]); first | done | rfl
      rw [e9]
      exact ⟨rfl, MV_same hv⟩
