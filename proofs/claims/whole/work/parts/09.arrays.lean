-- ===== rows of the abstract machine: arrays, constants outside, Math, arraycopy =====
def upr {α : Type} (G : Nat → Nat → α) (k : Nat) (f : Nat → α) : Nat → Nat → α := fun a => if a = k then f else G a
theorem upr_s {α : Type} {G : Nat → Nat → α} {k : Nat} {f : Nat → α} : upr G k f k = f := if_pos rfl
theorem upr_n {α : Type} {G : Nat → Nat → α} {k a : Nat} {f : Nat → α} (h : a ≠ k) : upr G k f a = G a := if_neg h
theorem up2_upr {α : Type} {G : Nat → Nat → α} {k i : Nat} {v : α} : up2 G k i v = upr G k (va_up (G k) i v) := by
  funext a
  by_cases h : a = k
  · subst h; rw [upr_s, up2_up]
  · rw [upr_n h, up2_row h]
theorem av9_I {ad : Nat → Nat} {ty : FieldType} {n : Nat} {Z : Zt} {G : Gt} {L : Lt} {k : Nat} (h : isI ty = true) : av9 ad ty n Z G L k = (n, .inl (G k)) := by cases ty <;> first | rfl | cases h
theorem cw_uprG {tc : FieldType → ClassId} {ad : Nat → Nat} {Z : Zt} {G : Gt} {L : Lt} {k : Nat} {ty : FieldType} {n : Nat} {f : Nat → Int32} (hz : Z.2.1 k = some (.inr (ty, n))) (ht : isI ty = true) : (cw tc ad Z G L).set k (ad k, .inl (tc ty, n, .inl f)) = cw tc ad Z (upr G k f) L :=
  cw_set rfl (fun j hj => cell_cong rfl rfl (upr_n hj) rfl) (by unfold cellOf; rw [hz]; show Sum.inl (tc ty, av9 ad ty n Z (upr G k f) L k) = _; rw [av9_I ht, upr_s])
theorem cw_uprL {tc : FieldType → ClassId} {ad : Nat → Nat} {Z : Zt} {G : Gt} {L : Lt} {k : Nat} {n : Nat} {f : Nat → Int64} (hz : Z.2.1 k = some (.inr (.long, n))) : (cw tc ad Z G L).set k (ad k, .inl (tc .long, n, .inr (.inl f))) = cw tc ad Z G (upr L k f) :=
  cw_set rfl (fun j hj => cell_cong rfl rfl rfl (upr_n hj)) (by unfold cellOf; rw [hz]; show Sum.inl (tc .long, av9 ad .long n Z G (upr L k f) k) = _; unfold av9; rw [upr_s])
theorem av9_R {ad : Nat → Nat} {ty : FieldType} {n : Nat} {Z : Zt} {G : Gt} {L : Lt} {k : Nat} (h : isR ty = true) : av9 ad ty n Z G L k = (n, .inr (.inr (.inr (.inr (fun j => (Z.2.2 k j).map ad))))) := by cases ty <;> first | rfl | cases h
section AXA
variable {X : Option (Nat × (Nat → Int32))} {M : Mt} {d mc ms cu su pc : Nat} {lv : Lv} {st : List Value} {Z : Zt} {G : Gt} {L : Lt} {Q : Qt}

theorem ax_iald {k n : Nat} {i : Int32} (hd : decode M.2.1 pc = .ok (.iaload, 1)) (hz : Z.2.1 k = some (.inr (.int, n))) (hin : vp_in i n) (kk : AX X M d mc ms cu su (pc + 1) lv (.int (G k i.toNatClampNeg) :: st) Z G L Q) : AX X M d mc ms cu su pc lv (.int i :: .ref k :: st) Z G L Q := by
  intro p l e R s m args below meth c H locs ls dC dI tc ad A N0 ad0 Qr hC hW hl hs hv hg hn hr
  obtain ⟨c1, c2, c3, c4, c5, c6, c7, c8, c9, c10, c11, c12⟩ := id hC
  obtain ⟨hK, hP, hD, hS, hA, hSF, hSX, hF⟩ := id hW
  exact va_iald c1 c2 hK hP k 0 (cw_arr hF hz) rfl hin hd (kk p l e R s m args below meth c H locs ls dC dI tc ad A N0 ad0 Qr hC hW hl ⟨trivial, hs.2.2⟩ hv hg hn hr)
theorem ax_bald {k n : Nat} {i : Int32} (hd : decode M.2.1 pc = .ok (.baload, 1)) (hz : Z.2.1 k = some (.inr (.byte, n))) (hin : vp_in i n) (kk : AX X M d mc ms cu su (pc + 1) lv (.int (G k i.toNatClampNeg) :: st) Z G L Q) : AX X M d mc ms cu su pc lv (.int i :: .ref k :: st) Z G L Q := by
  intro p l e R s m args below meth c H locs ls dC dI tc ad A N0 ad0 Qr hC hW hl hs hv hg hn hr
  obtain ⟨c1, c2, c3, c4, c5, c6, c7, c8, c9, c10, c11, c12⟩ := id hC
  obtain ⟨hK, hP, hD, hS, hA, hSF, hSX, hF⟩ := id hW
  exact va_bald c1 c2 hK hP k 2 (cw_arr hF hz) rfl hin hd (kk p l e R s m args below meth c H locs ls dC dI tc ad A N0 ad0 Qr hC hW hl ⟨trivial, hs.2.2⟩ hv hg hn hr)
theorem ax_zald {k n : Nat} {i : Int32} (hd : decode M.2.1 pc = .ok (.baload, 1)) (hz : Z.2.1 k = some (.inr (.boolean, n))) (hin : vp_in i n) (kk : AX X M d mc ms cu su (pc + 1) lv (.int (G k i.toNatClampNeg) :: st) Z G L Q) : AX X M d mc ms cu su pc lv (.int i :: .ref k :: st) Z G L Q := by
  intro p l e R s m args below meth c H locs ls dC dI tc ad A N0 ad0 Qr hC hW hl hs hv hg hn hr
  obtain ⟨c1, c2, c3, c4, c5, c6, c7, c8, c9, c10, c11, c12⟩ := id hC
  obtain ⟨hK, hP, hD, hS, hA, hSF, hSX, hF⟩ := id hW
  exact va_zald c1 c2 hK hP k 3 (cw_arr hF hz) rfl hin hd (kk p l e R s m args below meth c H locs ls dC dI tc ad A N0 ad0 Qr hC hW hl ⟨trivial, hs.2.2⟩ hv hg hn hr)
theorem ax_lald {k n : Nat} {i : Int32} (hd : decode M.2.1 pc = .ok (.laload, 1)) (hz : Z.2.1 k = some (.inr (.long, n))) (hin : vp_in i n) (kk : AX X M d mc ms cu su (pc + 1) lv (.long (L k i.toNatClampNeg) :: st) Z G L Q) : AX X M d mc ms cu su pc lv (.int i :: .ref k :: st) Z G L Q := by
  intro p l e R s m args below meth c H locs ls dC dI tc ad A N0 ad0 Qr hC hW hl hs hv hg hn hr
  obtain ⟨c1, c2, c3, c4, c5, c6, c7, c8, c9, c10, c11, c12⟩ := id hC
  obtain ⟨hK, hP, hD, hS, hA, hSF, hSX, hF⟩ := id hW
  exact va_lald c1 c2 hK hP k 1 (cw_arr hF hz) rfl hin hd (kk p l e R s m args below meth c H locs ls dC dI tc ad A N0 ad0 Qr hC hW hl ⟨trivial, hs.2.2⟩ hv hg hn hr)
theorem va_rf_orf (ad : Nat → Nat) (o : Option Nat) : va_rf (o.map ad) = cv ad (orf o) := by cases o <;> rfl
theorem ax_aaldO {k n t0 : Nat} {ty : FieldType} {i : Int32} (hd : decode M.2.1 pc = .ok (.aaload, 1)) (hz : Z.2.1 k = some (.inr (ty, n))) (ht : isR ty = true) (h0 : ∀ tc : FieldType → ClassId, (tyl tc)[t0]? = some (tc ty, ty)) (hin : vp_in i n) (kk : AX X M d mc ms cu su (pc + 1) lv (orf (Z.2.2 k i.toNatClampNeg) :: st) Z G L Q) : AX X M d mc ms cu su pc lv (.int i :: .ref k :: st) Z G L Q := by
  intro p l e R s m args below meth c H locs ls dC dI tc ad A N0 ad0 Qr hC hW hl hs hv hg hn hr
  obtain ⟨c1, c2, c3, c4, c5, c6, c7, c8, c9, c10, c11, c12⟩ := id hC
  obtain ⟨hK, hP, hD, hS, hA, hSF, hSX, hF⟩ := id hW
  have hlt : i.toNatClampNeg < n := Nat.not_le.mp fun q => hin (Or.inr q)
  have hc := cw_arr (tc := tc) (ad := ad) (G := G) (L := L) hF hz
  rw [av9_R ht] at hc
  have hP9 := hP k _ hc
  refine W.aald (v := cv ad (orf (Z.2.2 k i.toNatClampNeg))) (ty := ty) c1 c2 hP9 ((hK.2 t0 _ (h0 tc)).1 n (fun j => va_rf ((Z.2.2 k j).map ad))) (by cases ty <;> first | rfl | cases ht) (fun q => by cases q) (by show ¬ (i < 0 ∨ (arrV _ _ _).slots.size ≤ _); rw [arrV_size]; exact hin) (by show (arrV _ _ _).slots[_]? = _; rw [arrV_read _ _ hlt, va_rf_orf]) rfl rfl hd (kk p l e R s m args below meth c H locs ls dC dI tc ad A N0 ad0 Qr hC hW hl ⟨?_, hs.2.2⟩ hv hg hn hr)
  cases e9 : Z.2.2 k i.toNatClampNeg with
  | none => trivial
  | some j => exact Or.inl (hF.2.2.1 k _ j e9)
theorem ax_aald {k n t0 j : Nat} {ty : FieldType} {i : Int32} (hd : decode M.2.1 pc = .ok (.aaload, 1)) (hz : Z.2.1 k = some (.inr (ty, n))) (ht : isR ty = true) (h0 : ∀ tc : FieldType → ClassId, (tyl tc)[t0]? = some (tc ty, ty)) (hin : vp_in i n) (hj : Z.2.2 k i.toNatClampNeg = some j) (kk : AX X M d mc ms cu su (pc + 1) lv (.ref j :: st) Z G L Q) : AX X M d mc ms cu su pc lv (.int i :: .ref k :: st) Z G L Q := ax_aaldO hd hz ht h0 hin (by rw [hj]; exact kk)
theorem ax_iast {k n : Nat} {i x : Int32} (hd : decode M.2.1 pc = .ok (.iastore, 1)) (hz : Z.2.1 k = some (.inr (.int, n))) (hin : vp_in i n) (kk : AX X M d mc ms cu su (pc + 1) lv st Z (up2 G k i.toNatClampNeg x) L Q) : AX X M d mc ms cu su pc lv (.int x :: .int i :: .ref k :: st) Z G L Q := by
  intro p l e R s m args below meth c H locs ls dC dI tc ad A N0 ad0 Qr hC hW hl hs hv hg hn hr
  obtain ⟨c1, c2, c3, c4, c5, c6, c7, c8, c9, c10, c11, c12⟩ := id hC
  obtain ⟨hK, hP, hD, hS, hA, hSF, hSX, hF⟩ := id hW
  refine va_iast c1 c2 hK hP hD hS k 0 (cw_arr hF hz) rfl hin hd (fun H1 locs1 hP1 hD1 hS1 => ?_)
  rw [cw_uprG hz rfl, show upr G k (upd (G k) i.toNatClampNeg x) = up2 G k i.toNatClampNeg x by rw [up2_upr]; rfl] at hP1 hD1
  exact (kk p l e R s m args below meth c H1 locs1 ls dC dI tc ad A N0 ad0 Qr hC ⟨hK, hP1, hD1, hS1, hA, hSF, hSX, hF⟩ hl hs.2.2.2 hv hg hn hr)
theorem ax_bast {k n : Nat} {i x : Int32} (hd : decode M.2.1 pc = .ok (.bastore, 1)) (hz : Z.2.1 k = some (.inr (.byte, n))) (hin : vp_in i n) (kk : AX X M d mc ms cu su (pc + 1) lv st Z (up2 G k i.toNatClampNeg (vp_nar .byte x)) L Q) : AX X M d mc ms cu su pc lv (.int x :: .int i :: .ref k :: st) Z G L Q := by
  intro p l e R s m args below meth c H locs ls dC dI tc ad A N0 ad0 Qr hC hW hl hs hv hg hn hr
  obtain ⟨c1, c2, c3, c4, c5, c6, c7, c8, c9, c10, c11, c12⟩ := id hC
  obtain ⟨hK, hP, hD, hS, hA, hSF, hSX, hF⟩ := id hW
  refine va_bast c1 c2 hK hP hD hS k 2 (cw_arr hF hz) rfl hin hd (fun H1 locs1 hP1 hD1 hS1 => ?_)
  rw [cw_uprG hz rfl, show upr G k (upd (G k) i.toNatClampNeg (vp_nar .byte x)) = up2 G k i.toNatClampNeg (vp_nar .byte x) by rw [up2_upr]; rfl] at hP1 hD1
  exact (kk p l e R s m args below meth c H1 locs1 ls dC dI tc ad A N0 ad0 Qr hC ⟨hK, hP1, hD1, hS1, hA, hSF, hSX, hF⟩ hl hs.2.2.2 hv hg hn hr)
theorem ax_zast {k n : Nat} {i x : Int32} (hd : decode M.2.1 pc = .ok (.bastore, 1)) (hz : Z.2.1 k = some (.inr (.boolean, n))) (hin : vp_in i n) (kk : AX X M d mc ms cu su (pc + 1) lv st Z (up2 G k i.toNatClampNeg (vp_nar .boolean x)) L Q) : AX X M d mc ms cu su pc lv (.int x :: .int i :: .ref k :: st) Z G L Q := by
  intro p l e R s m args below meth c H locs ls dC dI tc ad A N0 ad0 Qr hC hW hl hs hv hg hn hr
  obtain ⟨c1, c2, c3, c4, c5, c6, c7, c8, c9, c10, c11, c12⟩ := id hC
  obtain ⟨hK, hP, hD, hS, hA, hSF, hSX, hF⟩ := id hW
  refine va_zast c1 c2 hK hP hD hS k 3 (cw_arr hF hz) rfl hin hd (fun H1 locs1 hP1 hD1 hS1 => ?_)
  rw [cw_uprG hz rfl, show upr G k (upd (G k) i.toNatClampNeg (vp_nar .boolean x)) = up2 G k i.toNatClampNeg (vp_nar .boolean x) by rw [up2_upr]; rfl] at hP1 hD1
  exact (kk p l e R s m args below meth c H1 locs1 ls dC dI tc ad A N0 ad0 Qr hC ⟨hK, hP1, hD1, hS1, hA, hSF, hSX, hF⟩ hl hs.2.2.2 hv hg hn hr)
theorem ax_last {k n : Nat} {i : Int32} {x : Int64} (hd : decode M.2.1 pc = .ok (.lastore, 1)) (hz : Z.2.1 k = some (.inr (.long, n))) (hin : vp_in i n) (kk : AX X M d mc ms cu su (pc + 1) lv st Z G (up2 L k i.toNatClampNeg x) Q) : AX X M d mc ms cu su pc lv (.long x :: .int i :: .ref k :: st) Z G L Q := by
  intro p l e R s m args below meth c H locs ls dC dI tc ad A N0 ad0 Qr hC hW hl hs hv hg hn hr
  obtain ⟨c1, c2, c3, c4, c5, c6, c7, c8, c9, c10, c11, c12⟩ := id hC
  obtain ⟨hK, hP, hD, hS, hA, hSF, hSX, hF⟩ := id hW
  refine va_last c1 c2 hK hP hD hS k 1 (cw_arr hF hz) rfl hin hd (fun H1 locs1 hP1 hD1 hS1 => ?_)
  rw [cw_uprL hz, show upr L k (vp_updL (L k) i.toNatClampNeg x) = up2 L k i.toNatClampNeg x by rw [up2_upr]; rfl] at hP1 hD1
  exact (kk p l e R s m args below meth c H1 locs1 ls dC dI tc ad A N0 ad0 Qr hC ⟨hK, hP1, hD1, hS1, hA, hSF, hSX, hF⟩ hl hs.2.2.2 hv hg hn hr)
theorem ax_alen {k n t0 : Nat} {ty : FieldType} {v : Int32} (hd : decode M.2.1 pc = .ok (.arraylength, 1)) (hz : Z.2.1 k = some (.inr (ty, n))) (h0 : ∀ tc : FieldType → ClassId, (tyl tc)[t0]? = some (tc ty, ty)) (hx : Int32.ofNat n = v) (kk : AX X M d mc ms cu su (pc + 1) lv (.int v :: st) Z G L Q) : AX X M d mc ms cu su pc lv (.ref k :: st) Z G L Q := by
  intro p l e R s m args below meth c H locs ls dC dI tc ad A N0 ad0 Qr hC hW hl hs hv hg hn hr
  obtain ⟨c1, c2, c3, c4, c5, c6, c7, c8, c9, c10, c11, c12⟩ := id hC
  obtain ⟨hK, hP, hD, hS, hA, hSF, hSX, hF⟩ := id hW
  exact va_alen c1 c2 hK hP k t0 (cw_arr hF hz) (h0 tc) (by rw [← hx]; cases ty <;> rfl) hd (kk p l e R s m args below meth c H locs ls dC dI tc ad A N0 ad0 Qr hC hW hl ⟨trivial, hs.2⟩ hv hg hn hr)
theorem ax_sld {n : Nat} {xs : Nat → Int32} {i : Int32} (hX : X = some (n, xs)) (hd : decode M.2.1 pc = .ok (.iaload, 1)) (hin : vp_in i n) (kk : AX X M d mc ms cu su (pc + 1) lv (.int (xs i.toNatClampNeg) :: st) Z G L Q) : AX X M d mc ms cu su pc lv (.int i :: .ref 3000 :: st) Z G L Q := by
  intro p l e R s m args below meth c H locs ls dC dI tc ad A N0 ad0 Qr hC hW hl hs hv hg hn hr
  obtain ⟨c1, c2, c3, c4, c5, c6, c7, c8, c9, c10, c11, c12⟩ := id hC
  obtain ⟨hK, hP, hD, hS, hA, hSF, hSX, hF⟩ := id hW
  subst hX
  exact va_sld c1 c2 hSX.1 hSX.2.1 hSX.2.2 hS hin hd (kk p l e R s m args below meth c H locs ls dC dI tc ad A N0 ad0 Qr hC hW hl ⟨trivial, hs.2.2⟩ hv hg hn hr)
theorem ax_slen {n : Nat} {xs : Nat → Int32} (hX : X = some (n, xs)) (hd : decode M.2.1 pc = .ok (.arraylength, 1)) (kk : AX X M d mc ms cu su (pc + 1) lv (.int (Int32.ofNat n) :: st) Z G L Q) : AX X M d mc ms cu su pc lv (.ref 3000 :: st) Z G L Q := by
  intro p l e R s m args below meth c H locs ls dC dI tc ad A N0 ad0 Qr hC hW hl hs hv hg hn hr
  obtain ⟨c1, c2, c3, c4, c5, c6, c7, c8, c9, c10, c11, c12⟩ := id hC
  obtain ⟨hK, hP, hD, hS, hA, hSF, hSX, hF⟩ := id hW
  subst hX
  exact va_slen c1 c2 hSX.1 hSX.2.1 hSX.2.2 hS hd (kk p l e R s m args below meth c H locs ls dC dI tc ad A N0 ad0 Qr hC hW hl ⟨trivial, hs.2⟩ hv hg hn hr)
/-- the static row ABOVE -/
theorem ax_above {idx : Nat} (hd : decode M.2.1 pc = .ok (.getstatic idx, 3)) (hw : Cond.fieldLink M.1.cls idx "FireApologies" "ABOVE" "[I" ∈ TB) (kk : AX X M d mc ms cu su (pc + 3) lv (.ref 2000 :: st) Z G L Q) : AX X M d mc ms cu su pc lv st Z G L Q := by
  intro p l e R s m args below meth c H locs ls dC dI tc ad A N0 ad0 Qr hC hW hl hs hv hg hn hr
  obtain ⟨c1, c2, c3, c4, c5, c6, c7, c8, c9, c10, c11, c12⟩ := id hC
  obtain ⟨hK, hP, hD, hS, hA, hSF, hSX, hF⟩ := id hW
  exact va_gets c1 c2 hSF.2.2.1 hS c5 (c6 _ hw) (fun _ h9 => h9) hd (kk p l e R s m args below meth c H locs ls dC dI tc ad A N0 ad0 Qr hC hW hl ⟨Or.inr (by decide), hs⟩ hv hg hn hr)
theorem ax_aboveAt {i : Int32} (hd : decode M.2.1 pc = .ok (.iaload, 1)) (hin : vp_in i 7) (kk : AX X M d mc ms cu su (pc + 1) lv (.int (tAbove.getD i.toNatClampNeg 0) :: st) Z G L Q) : AX X M d mc ms cu su pc lv (.int i :: .ref 2000 :: st) Z G L Q := by
  intro p l e R s m args below meth c H locs ls dC dI tc ad A N0 ad0 Qr hC hW hl hs hv hg hn hr
  obtain ⟨c1, c2, c3, c4, c5, c6, c7, c8, c9, c10, c11, c12⟩ := id hC
  obtain ⟨hK, hP, hD, hS, hA, hSF, hSX, hF⟩ := id hW
  exact va_ti c1 c2 hSF.2.2.2.1 hS hin rfl hd (kk p l e R s m args below meth c H locs ls dC dI tc ad A N0 ad0 Qr hC hW hl ⟨trivial, hs.2.2⟩ hv hg hn hr)
/-- string constants: number i at 1000 + i, its bytes at 1100 + i -/
theorem ax_ldcS {idx i : Nat} {tx : String} (hd : decode M.2.1 pc = .ok (.ldc idx, 2)) (hw : (M.1.cls, idx, tx, i) ∈ STR) (kk : AX X M d mc ms cu su (pc + 2) lv (.ref (1000 + i) :: st) Z G L Q) : AX X M d mc ms cu su pc lv st Z G L Q := by
  intro p l e R s m args below meth c H locs ls dC dI tc ad A N0 ad0 Qr hC hW hl hs hv hg hn hr
  obtain ⟨c1, c2, c3, c4, c5, c6, c7, c8, c9, c10, c11, c12⟩ := id hC
  obtain ⟨hK, hP, hD, hS, hA, hSF, hSX, hF⟩ := id hW
  exact va_ldcS c1 c2 c5 (hSF.2.1 _ hw) hd (kk p l e R s m args below meth c H locs ls dC dI tc ad A N0 ad0 Qr hC hW hl ⟨Or.inr (Nat.le_add_right 1000 i), hs⟩ hv hg hn hr)
theorem ax_sval {idx i : Nat} (hd : decode M.2.1 pc = .ok (.getfield idx, 3)) (hw : Cond.fieldLink M.1.cls idx "java/lang/String" "value" "[B" ∈ TB) (hi : i < 7) (kk : AX X M d mc ms cu su (pc + 3) lv (.ref (1100 + i) :: st) Z G L Q) : AX X M d mc ms cu su pc lv (.ref (1000 + i) :: st) Z G L Q := by
  intro p l e R s m args below meth c H locs ls dC dI tc ad A N0 ad0 Qr hC hW hl hs hv hg hn hr
  obtain ⟨c1, c2, c3, c4, c5, c6, c7, c8, c9, c10, c11, c12⟩ := id hC
  obtain ⟨hK, hP, hD, hS, hA, hSF, hSX, hF⟩ := id hW
  exact vk_getf c1 c2 (hSF.1.1 i hi).2.2.1 hS c5 (c6 _ hw) (fun _ h9 => h9) hd (kk p l e R s m args below meth c H locs ls dC dI tc ad A N0 ad0 Qr hC hW hl ⟨Or.inr (Nat.le_trans (by decide : 1000 ≤ 1100) (Nat.le_add_right 1100 i)), hs.2⟩ hv hg hn hr)
theorem ax_scod {idx i : Nat} (hd : decode M.2.1 pc = .ok (.getfield idx, 3)) (hw : Cond.fieldLink M.1.cls idx "java/lang/String" "coder" "B" ∈ TB) (hi : i < 7) (kk : AX X M d mc ms cu su (pc + 3) lv (.int 0 :: st) Z G L Q) : AX X M d mc ms cu su pc lv (.ref (1000 + i) :: st) Z G L Q := by
  intro p l e R s m args below meth c H locs ls dC dI tc ad A N0 ad0 Qr hC hW hl hs hv hg hn hr
  obtain ⟨c1, c2, c3, c4, c5, c6, c7, c8, c9, c10, c11, c12⟩ := id hC
  obtain ⟨hK, hP, hD, hS, hA, hSF, hSX, hF⟩ := id hW
  exact vk_getf c1 c2 (hSF.1.1 i hi).2.1 hS c5 (c6 _ hw) (fun _ h9 => h9) hd (kk p l e R s m args below meth c H locs ls dC dI tc ad A N0 ad0 Qr hC hW hl ⟨trivial, hs.2⟩ hv hg hn hr)
theorem ax_sbald {i : Nat} {j : Int32} (hd : decode M.2.1 pc = .ok (.baload, 1)) (hi : i < 7) (hin : vp_in j (sLen.getD i 0)) (kk : AX X M d mc ms cu su (pc + 1) lv (.int ((sByt.getD i []).getD j.toNatClampNeg 0) :: st) Z G L Q) : AX X M d mc ms cu su pc lv (.int j :: .ref (1100 + i) :: st) Z G L Q := by
  intro p l e R s m args below meth c H locs ls dC dI tc ad A N0 ad0 Qr hC hW hl hs hv hg hn hr
  obtain ⟨c1, c2, c3, c4, c5, c6, c7, c8, c9, c10, c11, c12⟩ := id hC
  obtain ⟨hK, hP, hD, hS, hA, hSF, hSX, hF⟩ := id hW
  exact va_tb c1 c2 (hSF.1.1 i hi).2.2.2 hS hin rfl hd (kk p l e R s m args below meth c H locs ls dC dI tc ad A N0 ad0 Qr hC hW hl ⟨trivial, hs.2.2⟩ hv hg hn hr)
theorem ax_slenS {i : Nat} (hd : decode M.2.1 pc = .ok (.arraylength, 1)) (hi : i < 7) (kk : AX X M d mc ms cu su (pc + 1) lv (.int (Int32.ofNat (sLen.getD i 0)) :: st) Z G L Q) : AX X M d mc ms cu su pc lv (.ref (1100 + i) :: st) Z G L Q := by
  intro p l e R s m args below meth c H locs ls dC dI tc ad A N0 ad0 Qr hC hW hl hs hv hg hn hr
  obtain ⟨c1, c2, c3, c4, c5, c6, c7, c8, c9, c10, c11, c12⟩ := id hC
  obtain ⟨hK, hP, hD, hS, hA, hSF, hSX, hF⟩ := id hW
  exact va_tlen c1 c2 (hSF.1.1 i hi).2.2.2 hS rfl hd (kk p l e R s m args below meth c H locs ls dC dI tc ad A N0 ad0 Qr hC hW hl ⟨trivial, hs.2⟩ hv hg hn hr)
theorem ax_compact {idx : Nat} (hd : decode M.2.1 pc = .ok (.getstatic idx, 3)) (hw : Cond.fieldLink M.1.cls idx "java/lang/String" "COMPACT_STRINGS" "Z" ∈ TB) (kk : AX X M d mc ms cu su (pc + 3) lv (.int 1 :: st) Z G L Q) : AX X M d mc ms cu su pc lv st Z G L Q := by
  intro p l e R s m args below meth c H locs ls dC dI tc ad A N0 ad0 Qr hC hW hl hs hv hg hn hr
  obtain ⟨c1, c2, c3, c4, c5, c6, c7, c8, c9, c10, c11, c12⟩ := id hC
  obtain ⟨hK, hP, hD, hS, hA, hSF, hSX, hF⟩ := id hW
  exact va_gets c1 c2 hSF.2.2.2.2.1 hS c5 (c6 _ hw) (fun _ h9 => h9) hd (kk p l e R s m args below meth c H locs ls dC dI tc ad A N0 ad0 Qr hC hW hl ⟨trivial, hs⟩ hv hg hn hr)
theorem ax_fmt {idx : Nat} (hd : decode M.2.1 pc = .ok (.getstatic idx, 3)) (hw : Cond.fieldLink M.1.cls idx "jdk/internal/util/Preconditions" "SIOOBE_FORMATTER" "Ljava/util/function/BiFunction;" ∈ TB) (kk : ∀ o : Option Nat, (o = none ∨ o = some 2500) → AX X M d mc ms cu su (pc + 3) lv (orf o :: st) Z G L Q) : AX X M d mc ms cu su pc lv st Z G L Q := by
  intro p l e R s m args below meth c H locs ls dC dI tc ad A N0 ad0 Qr hC hW hl hs hv hg hn hr
  obtain ⟨c1, c2, c3, c4, c5, c6, c7, c8, c9, c10, c11, c12⟩ := id hC
  obtain ⟨hK, hP, hD, hS, hA, hSF, hSX, hF⟩ := id hW
  rcases hSF.2.2.2.2.2.2.2.2.2.2 with h | h
  · exact va_gets c1 c2 h hS c5 (c6 _ hw) (fun _ h9 => h9) hd (kk none (Or.inl rfl) p l e R s m args below meth c H locs ls dC dI tc ad A N0 ad0 Qr hC hW hl ⟨trivial, hs⟩ hv hg hn hr)
  · exact va_gets c1 c2 h hS c5 (c6 _ hw) (fun _ h9 => h9) hd (kk (some 2500) (Or.inr rfl) p l e R s m args below meth c H locs ls dC dI tc ad A N0 ad0 Qr hC hW hl ⟨Or.inr (by decide), hs⟩ hv hg hn hr)
def LkM (own : String) (idx : Nat) (y : MethodName) (cc : ByteArray) : Prop := Cond.methodLink own idx y ∈ TB ∧ Cond.static y ∈ TB ∧ Cond.initialized "java/lang/Math" ∈ TB ∧ Cond.code y cc 2 (some .int) ∈ TB
theorem ax_max {idx : Nat} {x y : Int32} (hd : decode M.2.1 pc = .ok (.invokestatic idx, 3)) (hk : LkM M.1.cls idx Lib.Math.max.name Lib.Math.max.code) (h1 : 1 ≤ d) (h2 : (st.map fun v => v.category).sum ≤ 40) (hc1 : cu ≤ mc) (hc2 : su ≤ ms) (kk : AX X M d mc ms cu su (pc + 3) lv (.int (if x < y then y else x) :: st) Z G L Q) : AX X M d mc ms cu su pc lv (.int y :: .int x :: st) Z G L Q := by
  intro p l e R s m args below meth c H locs ls dC dI tc ad A N0 ad0 Qr hC hW hl hs hv hg hn hr
  obtain ⟨c1, c2, c3, c4, c5, c6, c7, c8, c9, c10, c11, c12⟩ := id hC
  obtain ⟨hK, hP, hD, hS, hA, hSF, hSX, hF⟩ := id hW
  exact va_mmax c1 c2 (c3.trans hv.1.symm) c5 (c6 _ hk.1) (c6 _ hk.2.1) (c6 _ hk.2.2.1) (c6 _ hk.2.2.2) (by omega) (by rw [cs_cat]; omega) (by omega) (by omega) hd (kk p l e R s m args below meth c H locs ls dC dI tc ad A N0 ad0 Qr hC hW hl ⟨trivial, hs.2.2⟩ hv hg hn hr)
theorem ax_min {idx : Nat} {x y : Int32} (hd : decode M.2.1 pc = .ok (.invokestatic idx, 3)) (hk : LkM M.1.cls idx Lib.Math.min.name Lib.Math.min.code) (h1 : 1 ≤ d) (h2 : (st.map fun v => v.category).sum ≤ 40) (hc1 : cu ≤ mc) (hc2 : su ≤ ms) (kk : AX X M d mc ms cu su (pc + 3) lv (.int (if y < x then y else x) :: st) Z G L Q) : AX X M d mc ms cu su pc lv (.int y :: .int x :: st) Z G L Q := by
  intro p l e R s m args below meth c H locs ls dC dI tc ad A N0 ad0 Qr hC hW hl hs hv hg hn hr
  obtain ⟨c1, c2, c3, c4, c5, c6, c7, c8, c9, c10, c11, c12⟩ := id hC
  obtain ⟨hK, hP, hD, hS, hA, hSF, hSX, hF⟩ := id hW
  exact va_mmin c1 c2 (c3.trans hv.1.symm) c5 (c6 _ hk.1) (c6 _ hk.2.1) (c6 _ hk.2.2.1) (c6 _ hk.2.2.2) (by omega) (by rw [cs_cat]; omega) (by omega) (by omega) hd (kk p l e R s m args below meth c H locs ls dC dI tc ad A N0 ad0 Qr hC hW hl ⟨trivial, hs.2.2⟩ hv hg hn hr)
def LkC (own : String) (idx : Nat) : Prop := Cond.methodLink own idx arraycopyName ∈ TB ∧ Cond.native arraycopyName ∈ TB ∧ Cond.static arraycopyName ∈ TB ∧ Cond.initialized "java/lang/System" ∈ TB
theorem nfw : nativeFrameWords "java/lang/System" "arraycopy" 5 ≤ 40 := by decide
theorem ax_copyI {idx k0 k1 n0 n1 : Nat} {sp dp n : Int32} (hd : decode M.2.1 pc = .ok (.invokestatic idx, 3)) (hk : LkC M.1.cls idx) (hz0 : Z.2.1 k0 = some (.inr (.int, n0))) (hz1 : Z.2.1 k1 = some (.inr (.int, n1))) (h1 : ¬ sp < 0) (h2 : ¬ dp < 0) (h3 : ¬ n < 0) (h4 : sp.toNatClampNeg + n.toNatClampNeg ≤ n0) (h5 : dp.toNatClampNeg + n.toNatClampNeg ≤ n1) (h6 : 1 ≤ d) (h7 : (st.map fun v => v.category).sum ≤ 8)
    (kk : AX X M d mc ms cu su (pc + 3) lv st Z (upr G k1 (va_cpy (G k0) (G k1) sp.toNatClampNeg dp.toNatClampNeg n.toNatClampNeg)) L Q) : AX X M d mc ms cu su pc lv (.int n :: .int dp :: .ref k1 :: .int sp :: .ref k0 :: st) Z G L Q := by
  intro p l e R s m args below meth c H locs ls dC dI tc ad A N0 ad0 Qr hC hW hl hs hv hg hn hr
  obtain ⟨c1, c2, c3, c4, c5, c6, c7, c8, c9, c10, c11, c12⟩ := id hC
  obtain ⟨hK, hP, hD, hS, hA, hSF, hSX, hF⟩ := id hW
  have hnf := nfw
  refine va_copyi c1 c2 (c3.trans hv.1.symm) c5 (c6 _ hk.1) (c6 _ hk.2.1) (c6 _ hk.2.2.1) (c6 _ hk.2.2.2) hK hP hD hS k0 k1 0 0 (ty := .int) (cw_arr hF hz0) (cw_arr hF hz1) rfl rfl rfl h1 h2 h3 h4 h5 (fun _ _ => rfl) (by omega) (by rw [cs_cat]; omega) hd (fun H1 locs1 hP1 hD1 hS1 => ?_)
  rw [cw_uprG hz1 rfl] at hP1 hD1
  exact (kk p l e R s m args below meth c H1 locs1 ls dC dI tc ad A N0 ad0 Qr hC ⟨hK, hP1, hD1, hS1, hA, hSF, hSX, hF⟩ hl hs.2.2.2.2.2 hv hg hn hr)
theorem ax_copyL {idx k0 k1 n0 n1 : Nat} {sp dp n : Int32} (hd : decode M.2.1 pc = .ok (.invokestatic idx, 3)) (hk : LkC M.1.cls idx) (hz0 : Z.2.1 k0 = some (.inr (.long, n0))) (hz1 : Z.2.1 k1 = some (.inr (.long, n1))) (h1 : ¬ sp < 0) (h2 : ¬ dp < 0) (h3 : ¬ n < 0) (h4 : sp.toNatClampNeg + n.toNatClampNeg ≤ n0) (h5 : dp.toNatClampNeg + n.toNatClampNeg ≤ n1) (h6 : 1 ≤ d) (h7 : (st.map fun v => v.category).sum ≤ 8)
    (kk : AX X M d mc ms cu su (pc + 3) lv st Z G (upr L k1 (va_cpy (L k0) (L k1) sp.toNatClampNeg dp.toNatClampNeg n.toNatClampNeg)) Q) : AX X M d mc ms cu su pc lv (.int n :: .int dp :: .ref k1 :: .int sp :: .ref k0 :: st) Z G L Q := by
  intro p l e R s m args below meth c H locs ls dC dI tc ad A N0 ad0 Qr hC hW hl hs hv hg hn hr
  obtain ⟨c1, c2, c3, c4, c5, c6, c7, c8, c9, c10, c11, c12⟩ := id hC
  obtain ⟨hK, hP, hD, hS, hA, hSF, hSX, hF⟩ := id hW
  have hnf := nfw
  refine va_copyl c1 c2 (c3.trans hv.1.symm) c5 (c6 _ hk.1) (c6 _ hk.2.1) (c6 _ hk.2.2.1) (c6 _ hk.2.2.2) hK hP hD hS k0 k1 1 1 (ty := .long) (cw_arr hF hz0) (cw_arr hF hz1) rfl rfl rfl h1 h2 h3 h4 h5 (fun _ _ => rfl) (by omega) (by rw [cs_cat]; omega) hd (fun H1 locs1 hP1 hD1 hS1 => ?_)
  rw [cw_uprL hz1] at hP1 hD1
  exact (kk p l e R s m args below meth c H1 locs1 ls dC dI tc ad A N0 ad0 Qr hC ⟨hK, hP1, hD1, hS1, hA, hSF, hSX, hF⟩ hl hs.2.2.2.2.2 hv hg hn hr)
end AXA
