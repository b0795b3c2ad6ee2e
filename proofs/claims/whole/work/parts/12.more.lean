-- ===== array rows by number; calls with one answer; a World's places =====
section AXN
variable {X : Option (Nat × (Nat → Int32))} {M : Mt} {d mc ms cu su pc : Nat} {lv : Lv} {st : List Value} {Z : Zt} {G : Gt} {L : Lt} {Q : Qt}
theorem ax_ialdN {k n : Nat} {i : Int32} (j : Nat) (hd : decode M.2.1 pc = .ok (.iaload, 1)) (hz : Z.2.1 k = some (.inr (.int, n))) (hi : i = nI j) (hj : j < n) (hn : n < 2147483648) (kk : AX X M d mc ms cu su (pc + 1) lv (.int (G k j) :: st) Z G L Q) : AX X M d mc ms cu su pc lv (.int i :: .ref k :: st) Z G L Q := by
  subst hi
  exact ax_iald hd hz (vp_in_nI hj hn) (by rw [nI_clamp (Nat.lt_trans hj hn)]; exact kk)
theorem ax_baldN {k n : Nat} {i : Int32} (j : Nat) (hd : decode M.2.1 pc = .ok (.baload, 1)) (hz : Z.2.1 k = some (.inr (.byte, n))) (hi : i = nI j) (hj : j < n) (hn : n < 2147483648) (kk : AX X M d mc ms cu su (pc + 1) lv (.int (G k j) :: st) Z G L Q) : AX X M d mc ms cu su pc lv (.int i :: .ref k :: st) Z G L Q := by
  subst hi
  exact ax_bald hd hz (vp_in_nI hj hn) (by rw [nI_clamp (Nat.lt_trans hj hn)]; exact kk)
theorem ax_zaldN {k n : Nat} {i : Int32} (j : Nat) (hd : decode M.2.1 pc = .ok (.baload, 1)) (hz : Z.2.1 k = some (.inr (.boolean, n))) (hi : i = nI j) (hj : j < n) (hn : n < 2147483648) (kk : AX X M d mc ms cu su (pc + 1) lv (.int (G k j) :: st) Z G L Q) : AX X M d mc ms cu su pc lv (.int i :: .ref k :: st) Z G L Q := by
  subst hi
  exact ax_zald hd hz (vp_in_nI hj hn) (by rw [nI_clamp (Nat.lt_trans hj hn)]; exact kk)
theorem ax_laldN {k n : Nat} {i : Int32} (j : Nat) (hd : decode M.2.1 pc = .ok (.laload, 1)) (hz : Z.2.1 k = some (.inr (.long, n))) (hi : i = nI j) (hj : j < n) (hn : n < 2147483648) (kk : AX X M d mc ms cu su (pc + 1) lv (.long (L k j) :: st) Z G L Q) : AX X M d mc ms cu su pc lv (.int i :: .ref k :: st) Z G L Q := by
  subst hi
  exact ax_lald hd hz (vp_in_nI hj hn) (by rw [nI_clamp (Nat.lt_trans hj hn)]; exact kk)
theorem ax_aaldN {k n t0 q : Nat} {ty : FieldType} {i : Int32} (j : Nat) (hd : decode M.2.1 pc = .ok (.aaload, 1)) (hz : Z.2.1 k = some (.inr (ty, n))) (ht : isR ty = true) (h0 : ∀ tc : FieldType → ClassId, (tyl tc)[t0]? = some (tc ty, ty)) (hi : i = nI j) (hj : j < n) (hn : n < 2147483648) (hq : Z.2.2 k j = some q) (kk : AX X M d mc ms cu su (pc + 1) lv (.ref q :: st) Z G L Q) : AX X M d mc ms cu su pc lv (.int i :: .ref k :: st) Z G L Q := by
  subst hi
  exact ax_aald hd hz ht h0 (vp_in_nI hj hn) (by rw [nI_clamp (Nat.lt_trans hj hn)]; exact hq) kk
theorem ax_iastN {k n : Nat} {i x : Int32} (j : Nat) (hd : decode M.2.1 pc = .ok (.iastore, 1)) (hz : Z.2.1 k = some (.inr (.int, n))) (hi : i = nI j) (hj : j < n) (hn : n < 2147483648) (kk : AX X M d mc ms cu su (pc + 1) lv st Z (up2 G k j x) L Q) : AX X M d mc ms cu su pc lv (.int x :: .int i :: .ref k :: st) Z G L Q := by
  subst hi
  exact ax_iast hd hz (vp_in_nI hj hn) (by rw [nI_clamp (Nat.lt_trans hj hn)]; exact kk)
theorem ax_bastN {k n : Nat} {i x : Int32} (j : Nat) (hd : decode M.2.1 pc = .ok (.bastore, 1)) (hz : Z.2.1 k = some (.inr (.byte, n))) (hi : i = nI j) (hj : j < n) (hn : n < 2147483648) (kk : AX X M d mc ms cu su (pc + 1) lv st Z (up2 G k j (vp_nar .byte x)) L Q) : AX X M d mc ms cu su pc lv (.int x :: .int i :: .ref k :: st) Z G L Q := by
  subst hi
  exact ax_bast hd hz (vp_in_nI hj hn) (by rw [nI_clamp (Nat.lt_trans hj hn)]; exact kk)
theorem ax_zastN {k n : Nat} {i x : Int32} (j : Nat) (hd : decode M.2.1 pc = .ok (.bastore, 1)) (hz : Z.2.1 k = some (.inr (.boolean, n))) (hi : i = nI j) (hj : j < n) (hn : n < 2147483648) (kk : AX X M d mc ms cu su (pc + 1) lv st Z (up2 G k j (vp_nar .boolean x)) L Q) : AX X M d mc ms cu su pc lv (.int x :: .int i :: .ref k :: st) Z G L Q := by
  subst hi
  exact ax_zast hd hz (vp_in_nI hj hn) (by rw [nI_clamp (Nat.lt_trans hj hn)]; exact kk)
theorem ax_lastN {k n : Nat} {i : Int32} {x : Int64} (j : Nat) (hd : decode M.2.1 pc = .ok (.lastore, 1)) (hz : Z.2.1 k = some (.inr (.long, n))) (hi : i = nI j) (hj : j < n) (hn : n < 2147483648) (kk : AX X M d mc ms cu su (pc + 1) lv st Z G (up2 L k j x) Q) : AX X M d mc ms cu su pc lv (.long x :: .int i :: .ref k :: st) Z G L Q := by
  subst hi
  exact ax_last hd hz (vp_in_nI hj hn) (by rw [nI_clamp (Nat.lt_trans hj hn)]; exact kk)
theorem ax_cSv {idx n d' : Nat} {M' : Mt} {av st0 : List Value} {r : Value} {Z' : Zt} {G' : Gt} {L' : Lt} (hd : decode M.2.1 pc = .ok (.invokestatic idx, 3)) (hlk : LkS M.1.cls idx M' n) (hA : AC M' d' 0 0 av Z G L (DQ (some r) Z' G' L')) (hst0 : st0 = av.reverse ++ st) (hn9 : av.length = n) (hst : (st.map fun v => v.category).sum ≤ 8) (hdd : d' + 1 ≤ d) (hc1 : cu ≤ mc) (hc2 : su ≤ ms)
    (kk : AX X M d mc ms cu su (pc + 3) lv (r :: st) Z' G' L' Q) : AX X M d mc ms cu su pc lv st0 Z G L Q := ax_cS hd hlk hA hst0 hn9 hst hdd hc1 hc2 kk
theorem ax_cS0 {idx n d' : Nat} {M' : Mt} {av st0 : List Value} {Z' : Zt} {G' : Gt} {L' : Lt} (hd : decode M.2.1 pc = .ok (.invokestatic idx, 3)) (hlk : LkS M.1.cls idx M' n) (hA : AC M' d' 0 0 av Z G L (DQ none Z' G' L')) (hst0 : st0 = av.reverse ++ st) (hn9 : av.length = n) (hst : (st.map fun v => v.category).sum ≤ 8) (hdd : d' + 1 ≤ d) (hc1 : cu ≤ mc) (hc2 : su ≤ ms)
    (kk : AX X M d mc ms cu su (pc + 3) lv st Z' G' L' Q) : AX X M d mc ms cu su pc lv st0 Z G L Q := ax_cS hd hlk hA hst0 hn9 hst hdd hc1 hc2 kk
theorem ax_cVv {idx n d' k ci : Nat} {M' : Mt} {av st0 : List Value} {r : Value} {Z' : Zt} {G' : Gt} {L' : Lt} (hd : decode M.2.1 pc = .ok (.invokevirtual idx, 3)) (hlk : LkV M.1.cls idx M' n) (hA : AC M' d' 0 0 (.ref k :: av) Z G L (DQ (some r) Z' G' L')) (hst0 : st0 = av.reverse ++ .ref k :: st) (hsh : Z.2.1 k = some (.inl ci)) (hci : ∃ q : vw_C, CL[ci]? = some q ∧ q.1 = M'.1.cls) (hn9 : av.length = n) (hst : (st.map fun v => v.category).sum ≤ 8) (hdd : d' + 1 ≤ d) (hc1 : cu ≤ mc) (hc2 : su ≤ ms)
    (kk : AX X M d mc ms cu su (pc + 3) lv (r :: st) Z' G' L' Q) : AX X M d mc ms cu su pc lv st0 Z G L Q := ax_cV hd hlk hA hst0 hsh hci hn9 hst hdd hc1 hc2 kk
theorem ax_cV0 {idx n d' k ci : Nat} {M' : Mt} {av st0 : List Value} {Z' : Zt} {G' : Gt} {L' : Lt} (hd : decode M.2.1 pc = .ok (.invokevirtual idx, 3)) (hlk : LkV M.1.cls idx M' n) (hA : AC M' d' 0 0 (.ref k :: av) Z G L (DQ none Z' G' L')) (hst0 : st0 = av.reverse ++ .ref k :: st) (hsh : Z.2.1 k = some (.inl ci)) (hci : ∃ q : vw_C, CL[ci]? = some q ∧ q.1 = M'.1.cls) (hn9 : av.length = n) (hst : (st.map fun v => v.category).sum ≤ 8) (hdd : d' + 1 ≤ d) (hc1 : cu ≤ mc) (hc2 : su ≤ ms)
    (kk : AX X M d mc ms cu su (pc + 3) lv st Z' G' L' Q) : AX X M d mc ms cu su pc lv st0 Z G L Q := ax_cV hd hlk hA hst0 hsh hci hn9 hst hdd hc1 hc2 kk
def LkSN (own : String) (idx : Nat) (M' : Mt) (host : String) (n : Nat) : Prop := (own, idx, M'.1, host) ∈ NWm ∧ Cond.static M'.1 ∈ TB ∧ Cond.initialized M'.1.cls ∈ TB ∧ CW M' ∈ TB ∧ (M'.1.cls ≠ "java/lang/invoke/MethodHandle" ∧ M'.1.cls ≠ "java/lang/invoke/VarHandle" ∧ (parseMethodDescriptor M'.1.desc).map (fun d => d.parameters.length) = some n) ∧ M'.2.2.1 ≤ 45
theorem ax_cSN {idx n d' : Nat} {M' : Mt} {host : String} {av st0 : List Value} {r : Value} {Z' : Zt} {G' : Gt} {L' : Lt} (hd : decode M.2.1 pc = .ok (.invokestatic idx, 3)) (hlk : LkSN M.1.cls idx M' host n) (hA : AC M' d' 0 0 av Z G L (DQ (some r) Z' G' L')) (hst0 : st0 = av.reverse ++ st) (hn9 : av.length = n) (hst : (st.map fun v => v.category).sum ≤ 8) (hdd : d' + 1 ≤ d) (hc1 : cu ≤ mc) (hc2 : su ≤ ms)
    (kk : AX X M d mc ms cu su (pc + 3) lv (r :: st) Z' G' L' Q) : AX X M d mc ms cu su pc lv st0 Z G L Q := by
  subst hst0
  intro p l e R s m args below meth c H locs ls dC dI tc ad A N0 ad0 Qr hC hW hl hs hv hg hn hr
  obtain ⟨k1, k2, k3, k4, k5, k6⟩ := hlk
  have hs2 := okS_app.mp hs
  obtain ⟨c1, c2, c3, c4, c5, c6, c7, c8, c9, c10, c11, c12⟩ := id hC
  refine ax_back hC hW hl hs2.2 hv hg hn hr (va_runSN (As := cs ad av) (rest := cs ad st) ⟨c1, c2, c3, c5, c6⟩ (hA l dC dI tc ad H.size) ⟨va_cnB n c6 (GoodIn_ws k4) rfl rfl rfl (hW.2.2.2.2.2.1.2.2.2.2.2.1 _ k1) (c6 _ k3) k5 ⟨by show d' + 1 ≤ R.frames; omega, by show 8 + (M'.2.2.1 + 11) + 64 * d' ≤ R.locals; omega⟩, c6 _ k2, trivial⟩ ⟨Pcx_blind, Wd_pre hW (okS_rev' hs2.1)⟩ rfl (by rw [cs_len]; exact hn9) hv.1 (by show cs ad (av.reverse ++ st) = _; rw [cs_app, cs_rev]) (lv_room (by rw [cs_cat]; exact hst)) hd ⟨by omega, by omega⟩) (fun _ _ _ _ h => by obtain ⟨rfl, rfl, rfl, rfl⟩ := h; exact kk)
end AXN
/-- one of the three Worlds -/
def isW (Z : Zt) (w : Nat) : Prop := OK Z ∧ (w = 24 ∨ w = 41 ∨ w = 58)
theorem Ws0 {Z : Zt} {w : Nat} (h : isW Z w) : Z.2.1 w = some (.inl 10) := by
  obtain ⟨hZ, rfl | rfl | rfl⟩ := h <;> exact OKs hZ rfl
theorem Ws {Z : Zt} {w : Nat} (h : isW Z w) (o : Nat) {x : Sh} (hx : SH0 (24 + o) = some x) (ho : o < 17 := by decide) : Z.2.1 (w + o) = some x := by
  obtain ⟨hZ, hw⟩ := h
  have e : ∀ o, o < 17 → SH0 (41 + o) = SH0 (24 + o) ∧ SH0 (58 + o) = SH0 (24 + o) := by decide +kernel
  obtain ⟨e1, e2⟩ := e o ho
  rcases hw with rfl | rfl | rfl
  · exact OKs hZ hx
  · exact OKs hZ (e1.trans hx)
  · exact OKs hZ (e2.trans hx)
def WRl : List Nat := [0, 1, 8, 9, 10, 11, 12, 13, 14, 15, 16]
theorem Wr {Z : Zt} {w : Nat} (h : isW Z w) (i : Nat) {o : Nat} (hx : WRl[i]? = some o) (hi : 0 < i := by decide) : Z.2.2 w i = some (w + o) := by
  obtain ⟨hZ, hw⟩ := h
  have hi2 : i < 11 := (List.getElem?_eq_some_iff.mp hx).1
  have e : ∀ i, i < 11 → i = 0 ∨ (RF0 24 i = (WRl[i]?).map (24 + ·) ∧ RF0 41 i = (WRl[i]?).map (41 + ·) ∧ RF0 58 i = (WRl[i]?).map (58 + ·)) := by decide +kernel
  obtain ⟨e1, e2, e3⟩ := (e i hi2).resolve_left (by omega)
  rw [hx] at e1 e2 e3
  rcases hw with rfl | rfl | rfl
  · exact OKr hZ e1
  · exact OKr hZ e2
  · exact OKr hZ e3
/-- where a World has its kinds -/
def kd (w : Nat) : Nat := if w = 24 then 16 else if w = 41 then 108 else 116
theorem Wk {Z : Zt} {w : Nat} (h : isW Z w) : Z.2.2 w 0 = some (kd w) := by
  obtain ⟨hZ, rfl | rfl | rfl⟩ := h <;> exact OKr hZ rfl
theorem Wks {Z : Zt} {w : Nat} (h : isW Z w) : Z.2.1 (kd w) = some (.inr (.object "FireApologies$Rocket", 7)) := by
  obtain ⟨hZ, rfl | rfl | rfl⟩ := h <;> exact OKs hZ rfl
theorem Wkr {Z : Zt} {w : Nat} (h : isW Z w) (j : Nat) (hj : j < 7) : Z.2.2 (kd w) j = some (kd w + 1 + j) := by
  obtain ⟨hZ, hw⟩ := h
  have e : ∀ j, j < 7 → RF0 (kd 24) j = some (kd 24 + 1 + j) ∧ RF0 (kd 41) j = some (kd 41 + 1 + j) ∧ RF0 (kd 58) j = some (kd 58 + 1 + j) := by decide +kernel
  obtain ⟨e1, e2, e3⟩ := e j hj
  rcases hw with rfl | rfl | rfl
  · exact OKr hZ e1
  · exact OKr hZ e2
  · exact OKr hZ e3
theorem Wkk {Z : Zt} {w : Nat} (h : isW Z w) (j : Nat) {x : Sh} (hx : SH0 (17 + j) = some x) (hj : j < 7 := by decide) : Z.2.1 (kd w + 1 + j) = some x := by
  obtain ⟨hZ, hw⟩ := h
  have e : ∀ j, j < 7 → SH0 (kd 24 + 1 + j) = SH0 (17 + j) ∧ SH0 (kd 41 + 1 + j) = SH0 (17 + j) ∧ SH0 (kd 58 + 1 + j) = SH0 (17 + j) := by decide +kernel
  obtain ⟨e1, e2, e3⟩ := e j hj
  rcases hw with rfl | rfl | rfl
  · exact OKs hZ (e1.trans hx)
  · exact OKs hZ (e2.trans hx)
  · exact OKs hZ (e3.trans hx)
theorem Wrf {Z : Zt} {w p : Nat} (h : isW Z w) (hp : p < 6) : Z.2.2 (w + 1) p = some (w + 2 + p) := by
  obtain ⟨hZ, hw⟩ := h
  have e : ∀ p, p < 6 → RF0 25 p = some (24 + 2 + p) ∧ RF0 42 p = some (41 + 2 + p) ∧ RF0 59 p = some (58 + 2 + p) := by decide +kernel
  obtain ⟨e1, e2, e3⟩ := e p hp
  rcases hw with rfl | rfl | rfl
  · exact OKr hZ e1
  · exact OKr hZ e2
  · exact OKr hZ e3
theorem Wrow {Z : Zt} {w p : Nat} (h : isW Z w) (hp : p < 6) : Z.2.1 (w + 2 + p) = some (.inr (.int, 10)) := by
  obtain ⟨hZ, hw⟩ := h
  have e : ∀ p, p < 6 → SH0 (24 + 2 + p) = some (.inr (.int, 10)) ∧ SH0 (41 + 2 + p) = some (.inr (.int, 10)) ∧ SH0 (58 + 2 + p) = some (.inr (.int, 10)) := by decide +kernel
  obtain ⟨e1, e2, e3⟩ := e p hp
  rcases hw with rfl | rfl | rfl
  · exact OKs hZ e1
  · exact OKs hZ e2
  · exact OKs hZ e3
theorem lkn_X10_101 : LkSN RX10 101 mX11_within "FireApologies" 2 := ⟨by decide +kernel, ks_X11_within, kn_RX11, kc_X11_within, ⟨by decide, by decide, by decide +kernel⟩, by decide⟩
