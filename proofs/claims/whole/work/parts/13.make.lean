-- ===== rows of the abstract machine: making objects, constructors =====
def upd1 {α : Type} (f : Nat → α) (k : Nat) (x : α) : Nat → α := fun j => if j = k then x else f j
theorem upd1_s {α : Type} {f : Nat → α} {k : Nat} {x : α} : upd1 f k x k = x := if_pos rfl
theorem upd1_n {α : Type} {f : Nat → α} {k j : Nat} {x : α} (h : j ≠ k) : upd1 f k x j = f j := if_neg h
/-- one more place -/
def Zn (Z : Zt) (x : Sh) : Zt := (Z.1 + 1, upd1 Z.2.1 Z.1 (some x), upr Z.2.2 Z.1 (fun _ => none))
theorem WF_n {Z : Zt} {x : Sh} (h : WF Z) (hN : Z.1 + 1 ≤ 1000) (hx : ∀ ci, x = .inl ci → ci < 13) : WF (Zn Z x) := by
  obtain ⟨h1, h2, h3, h4, h5⟩ := h
  refine ⟨fun k hk => ?_, fun k y hy => ?_, fun k i j hj => ?_, hN, fun k ci hk => ?_⟩
  · show (upd1 Z.2.1 Z.1 (some x) k).isSome = true
    by_cases e : k = Z.1
    · rw [e, upd1_s]; rfl
    · rw [upd1_n e]; exact h1 k (by have : k < Z.1 + 1 := hk; omega)
  · show k < Z.1 + 1
    have hy' : upd1 Z.2.1 Z.1 (some x) k = some y := hy
    by_cases e : k = Z.1
    · omega
    · rw [upd1_n e] at hy'; have := h2 k y hy'; omega
  · show j < Z.1 + 1
    have hj' : upr Z.2.2 Z.1 (fun _ => none) k i = some j := hj
    by_cases e : k = Z.1
    · rw [e, upr_s] at hj'; cases hj'
    · rw [upr_n e] at hj'; have := h3 k i j hj'; omega
  · have hk' : upd1 Z.2.1 Z.1 (some x) k = some (.inl ci) := hk
    by_cases e : k = Z.1
    · rw [e, upd1_s] at hk'; exact hx ci (Option.some.inj hk')
    · rw [upd1_n e] at hk'; exact h5 k ci hk'
theorem cell_ext {tc : FieldType → ClassId} {ad ad' : Nat → Nat} {Z Z' : Zt} {G G' : Gt} {L L' : Lt} {k : Nat} (hF : WF Z) (ha : ∀ j, j < Z.1 → ad' j = ad j) (h1 : Z'.2.1 k = Z.2.1 k) (h2 : Z'.2.2 k = Z.2.2 k) (h3 : G' k = G k) (h4 : L' k = L k) : cellOf tc ad' Z' G' L' k = cellOf tc ad Z G L k := by
  have hm : ∀ i, (Z.2.2 k i).map ad' = (Z.2.2 k i).map ad := fun i => by
    cases e : Z.2.2 k i with
    | none => rfl
    | some j => exact congrArg some (ha j (hF.2.2.1 k i j e))
  unfold cellOf
  rw [h1]
  cases e : Z.2.1 k with
  | none => rfl
  | some x =>
    cases x with
    | inl ci =>
      show Sum.inr (ci, _) = Sum.inr (ci, _)
      refine congrArg (fun z => Sum.inr (ci, z)) (List.map_congr_left fun i _ => ?_)
      unfold fv
      rw [h2, h3, h4, hm]
    | inr q =>
      show Sum.inl (tc q.1, _) = Sum.inl (tc q.1, _)
      unfold av9
      rw [h2, h3, h4]
      simp only [hm]
theorem cw_push {tc : FieldType → ClassId} {ad : Nat → Nat} {Z : Zt} {x : Sh} {G : Gt} {L : Lt} {q : Nat} {e : va_E} (hF : WF Z) (he : cellOf tc (upd1 ad Z.1 q) (Zn Z x) (upr G Z.1 (fun _ => 0)) (upr L Z.1 (fun _ => 0)) Z.1 = e) : cw tc ad Z G L ++ [(q, e)] = cw tc (upd1 ad Z.1 q) (Zn Z x) (upr G Z.1 (fun _ => 0)) (upr L Z.1 (fun _ => 0)) := by
  unfold cw
  show _ = (List.range (Z.1 + 1)).map _
  rw [List.range_succ, List.map_append]
  refine congr (congrArg _ (List.map_congr_left fun k hk => ?_)) ?_
  · have hk' : k ≠ Z.1 := Nat.ne_of_lt (List.mem_range.mp hk)
    rw [upd1_n hk', cell_ext hF (fun j hj => upd1_n (Nat.ne_of_lt hj)) (upd1_n hk') (upr_n hk') (upr_n hk') (upr_n hk')]
  · show [(q, e)] = [(upd1 ad Z.1 q Z.1, _)]
    rw [upd1_s, he]
theorem Ag_n {N Nz q : Nat} {ad0 ad : Nat → Nat} (hN : Nz < 1000) (hn : N ≤ Nz) (h : Ag N ad0 ad) : Ag N ad0 (upd1 ad Nz q) := fun k hk => by
  rw [upd1_n (by rcases hk with h | h <;> omega)]
  exact h k hk
theorem Ag_new {Nz q : Nat} {ad : Nat → Nat} (hN : Nz < 1000) : Ag Nz ad (upd1 ad Nz q) := fun k hk => upd1_n (by rcases hk with h | h <;> omega)
section AXM
variable {X : Option (Nat × (Nat → Int32))} {M : Mt} {d mc ms cu su pc : Nat} {lv : Lv} {st : List Value} {Z : Zt} {G : Gt} {L : Lt} {Q : Qt}
theorem ax_objI {idx k : Nat} (hd : decode M.2.1 pc = .ok (.invokespecial idx, 3)) (h1 : Cond.methodLink M.1.cls idx objectInit ∈ TB) (h2 : Cond.instanceMethod objectInit ∈ TB) (h3 : Cond.code objectInit ⟨#[0xb1]⟩ 1 none ∈ TB) (h4 : 1 ≤ d) (h5 : (st.map fun v => v.category).sum ≤ 8) (kk : AX X M d mc ms cu su (pc + 3) lv st Z G L Q) : AX X M d mc ms cu su pc lv (.ref k :: st) Z G L Q := by
  intro p l e R s m args below meth c H locs ls dC dI tc ad A N0 ad0 Qr hC hW hl hs hv hg hn hr
  obtain ⟨c1, c2, c3, c4, c5, c6, c7, c8, c9, c10, c11, c12⟩ := id hC
  refine W.objInit c1 c2 c5 (c6 _ h1) (c6 _ h2) (c6 _ h3) rfl (hv.1.trans c3.symm) (rest := cs ad st) rfl hd (by omega) (by rw [cs_cat]; show 2 * 0 + _ + 12 ≤ _; omega) ?_
  exact kk p l e R s m args below meth c H locs ls dC dI tc ad A N0 ad0 Qr hC hW hl hs.2 hv hg hn hr
def LkI (own : String) (idx : Nat) (M' : Mt) (n : Nat) : Prop := Cond.methodLink own idx M'.1 ∈ TB ∧ Cond.instanceMethod M'.1 ∈ TB ∧ Cond.initialized M'.1.cls ∈ TB ∧ CW M' ∈ TB ∧ (M'.1.cls ≠ "java/lang/invoke/MethodHandle" ∧ M'.1.cls ≠ "java/lang/invoke/VarHandle" ∧ (parseMethodDescriptor M'.1.desc).map (fun d => d.parameters.length) = some n) ∧ M'.2.2.1 ≤ 45 ∧ M'.1.name = "<init>" ∧ M'.2.2.2 = none
theorem ax_callI {idx n d' mc' ms' k : Nat} {M' : Mt} {av st0 : List Value} {Z' : Zt} {G' : Gt} {L' : Lt} (hd : decode M.2.1 pc = .ok (.invokespecial idx, 3)) (hlk : LkI M.1.cls idx M' n) (hA : AC M' d' mc' ms' (.ref k :: av) Z G L (DQ none Z' G' L')) (hst0 : st0 = av.reverse ++ .ref k :: st) (hn9 : av.length = n) (hst : (st.map fun v => v.category).sum ≤ 8) (hdd : d' + 1 ≤ d) (hc1 : cu + mc' ≤ mc) (hc2 : su + ms' ≤ ms)
    (kk : AX X M d mc ms (cu + mc') (su + ms') (pc + 3) lv st Z' G' L' Q) : AX X M d mc ms cu su pc lv st0 Z G L Q := by
  subst hst0
  intro p l e R s m args below meth c H locs ls dC dI tc ad A N0 ad0 Qr hC hW hl hs hv hg hn hr
  obtain ⟨k1, k2, k3, k4, k5, k6, k7, k8⟩ := hlk
  obtain ⟨y', cc', mx', ret'⟩ := M'
  dsimp only at k8
  subst k8
  have hs2 := okS_app.mp hs
  obtain ⟨c1, c2, c3, c4, c5, c6, c7, c8, c9, c10, c11, c12⟩ := id hC
  dsimp only at k6
  refine ax_back hC hW hl hs2.2.2 hv hg hn hr (va_runI (b := ad k) (As := cs ad av) (rest := cs ad st) ⟨c1, c2, c3, c5, c6⟩ (hA l dC dI tc ad H.size) ⟨callB_of n c6 (GoodIn_ws k4) rfl rfl rfl (c6 _ k3) (c6 _ k1) k5 ⟨by show d' + 1 ≤ R.frames; omega, by show 8 + (mx' + 11) + 64 * d' ≤ R.locals; omega⟩, k7, c6 _ k2⟩ ⟨Pcx_blind, Wd_pre hW (av := .ref k :: av) ⟨hs2.2.1, okS_rev' hs2.1⟩⟩ rfl (by rw [cs_len]; exact hn9) hv.1 (by show cs ad (av.reverse ++ .ref k :: st) = _; rw [cs_app, cs_rev]; rfl) (lv_room (by rw [cs_cat]; exact hst)) hd ⟨by omega, by omega⟩) (fun _ _ _ _ h => by obtain ⟨rfl, rfl, rfl, rfl⟩ := h; exact kk)
def LkIN (own : String) (idx : Nat) (M' : Mt) (host : String) (n : Nat) : Prop := (own, idx, M'.1, host) ∈ NWm ∧ Cond.instanceMethod M'.1 ∈ TB ∧ Cond.initialized M'.1.cls ∈ TB ∧ CW M' ∈ TB ∧ (M'.1.cls ≠ "java/lang/invoke/MethodHandle" ∧ M'.1.cls ≠ "java/lang/invoke/VarHandle" ∧ (parseMethodDescriptor M'.1.desc).map (fun d => d.parameters.length) = some n) ∧ M'.2.2.1 ≤ 45 ∧ M'.1.name = "<init>" ∧ M'.2.2.2 = none
theorem ax_callIN {idx n d' mc' ms' k : Nat} {M' : Mt} {host : String} {av st0 : List Value} {Z' : Zt} {G' : Gt} {L' : Lt} (hd : decode M.2.1 pc = .ok (.invokespecial idx, 3)) (hlk : LkIN M.1.cls idx M' host n) (hA : AC M' d' mc' ms' (.ref k :: av) Z G L (DQ none Z' G' L')) (hst0 : st0 = av.reverse ++ .ref k :: st) (hn9 : av.length = n) (hst : (st.map fun v => v.category).sum ≤ 8) (hdd : d' + 1 ≤ d) (hc1 : cu + mc' ≤ mc) (hc2 : su + ms' ≤ ms)
    (kk : AX X M d mc ms (cu + mc') (su + ms') (pc + 3) lv st Z' G' L' Q) : AX X M d mc ms cu su pc lv st0 Z G L Q := by
  subst hst0
  intro p l e R s m args below meth c H locs ls dC dI tc ad A N0 ad0 Qr hC hW hl hs hv hg hn hr
  obtain ⟨k1, k2, k3, k4, k5, k6, k7, k8⟩ := hlk
  obtain ⟨y', cc', mx', ret'⟩ := M'
  dsimp only at k8
  subst k8
  have hs2 := okS_app.mp hs
  obtain ⟨c1, c2, c3, c4, c5, c6, c7, c8, c9, c10, c11, c12⟩ := id hC
  dsimp only at k6
  refine ax_back hC hW hl hs2.2.2 hv hg hn hr (va_runIN (host := host) (b := ad k) (As := cs ad av) (rest := cs ad st) ⟨c1, c2, c3, c5, c6⟩ (hA l dC dI tc ad H.size) ⟨va_cnB n c6 (GoodIn_ws k4) rfl rfl rfl (hW.2.2.2.2.2.1.2.2.2.2.2.1 _ k1) (c6 _ k3) k5 ⟨by show d' + 1 ≤ R.frames; omega, by show 8 + (mx' + 11) + 64 * d' ≤ R.locals; omega⟩, k7, c6 _ k2⟩ ⟨Pcx_blind, Wd_pre hW (av := .ref k :: av) ⟨hs2.2.1, okS_rev' hs2.1⟩⟩ rfl (by rw [cs_len]; exact hn9) hv.1 (by show cs ad (av.reverse ++ .ref k :: st) = _; rw [cs_app, cs_rev]; rfl) (lv_room (by rw [cs_cat]; exact hst)) hd ⟨by omega, by omega⟩) (fun _ _ _ _ h => by obtain ⟨rfl, rfl, rfl, rfl⟩ := h; exact kk)
/-- a class that may be made -/
def CLn (own : String) (idx ci : Nat) : Prop := ∃ C T N, CL[ci]? = some (C, T, N) ∧ nF ci = N ∧ Cond.classLink own idx C ∈ TB ∧ Cond.instantiable C N ∈ TB ∧ Cond.initialized C ∈ TB ∧ (∀ w ∈ u_ws C T N, w ∈ TB) ∧ (∀ k, k < N → parseFieldDescriptor (T k).2.2.1 = some (tyF ci k)) ∧ (∀ k, k < N → (tyF ci k = .long ∨ isI (tyF ci k) = true ∨ isR (tyF ci k) = true))
theorem ax_new {idx ci : Nat} (hd : decode M.2.1 pc = .ok (.new idx, 3)) (hk : CLn M.1.cls idx ci) (hN : Z.1 + 1 ≤ 1000) (hci : ci < 13) (hc1 : cu + 1 ≤ mc) (hc2 : su + nF ci ≤ ms) (kk : AX X M d mc ms (cu + 1) (su + nF ci) (pc + 3) lv (.ref Z.1 :: st) (Zn Z (.inl ci)) (upr G Z.1 (fun _ => 0)) (upr L Z.1 (fun _ => 0)) Q) : AX X M d mc ms cu su pc lv st Z G L Q := by
  intro p l e R s m args below meth c H locs ls dC dI tc ad A N0 ad0 Qr hC hW hl hs hv hg hn hr
  obtain ⟨c1, c2, c3, c4, c5, c6, c7, c8, c9, c10, c11, c12⟩ := id hC
  obtain ⟨hK, hP, hD, hS, hA, hSF, hSX, hF⟩ := id hW
  obtain ⟨C, T, N, f1, f2, f3, f4, f5, f6, f7, f8⟩ := hk
  subst f2
  refine va_new (D := (dC, dI)) (ci := ci) (fs := (List.range (nF ci)).map (fun i => defaultValue (tyF ci i))) c1 c2 c6 f6 (tyF ci) f7 c5 (c6 _ f3) (c6 _ f4) (c6 _ f5) hK hP hD hS hA f1 (fun j hj => ?_) (by omega) (by omega) hd (fun q H1 hP1 hD1 hS1 => ?_)
  · unfold vp_V
    rw [List.getD_eq_getElem?_getD, List.getElem?_map, List.getElem?_range hj]
    rfl
  · have hcell : cellOf tc (upd1 ad Z.1 q) (Zn Z (.inl ci)) (upr G Z.1 (fun _ => 0)) (upr L Z.1 (fun _ => 0)) Z.1 = .inr (ci, (List.range (nF ci)).map (fun i => defaultValue (tyF ci i))) := by
      unfold cellOf
      rw [show (Zn Z (.inl ci)).2.1 Z.1 = some (.inl ci) from upd1_s]
      refine congrArg (fun z => Sum.inr (ci, z)) (List.map_congr_left fun i hi => ?_)
      rcases f8 i (List.mem_range.mp hi) with h | h | h
      · rw [h]
        show Value.long (upr L Z.1 (fun _ => 0) Z.1 i) = _
        rw [upr_s]
        rfl
      · rw [fv_I h, upr_s]
        cases e9 : tyF ci i <;> rw [e9] at h <;> first | cases h | rfl
        all_goals rfl
      · rw [fv_R h, show (Zn Z (.inl ci)).2.2 Z.1 i = none from congrFun upr_s i]
        cases e9 : tyF ci i <;> rw [e9] at h <;> first | rfl | cases h
    rw [cw_push hF hcell] at hP1 hD1
    have hN' : Z.1 < 1000 := by omega
    have hag : Ag Z.1 ad (upd1 ad Z.1 q) := Ag_new hN'
    have hst' : cs (upd1 ad Z.1 q) st = cs ad st := cs_ag hag hs
    have := kk p l e R s m args below meth c H1 locs ls dC dI tc (upd1 ad Z.1 q) A N0 ad0 Qr hC ⟨hK, hP1, hD1, hS1, hA, SF_ag hSF hag, SX_ag hSX hag, WF_n hF hN (fun ci' h => by cases h; exact hci)⟩ (okL_mono (Nat.le_succ _) hl) ⟨Or.inl (Nat.lt_succ_self _), okS_mono (Nat.le_succ _) hs⟩ (LV_ag hag hl hv) (Ag_n hN' hn hg) (Nat.le_trans hn (Nat.le_succ _)) hr
    have e2 : cs (upd1 ad Z.1 q) (.ref Z.1 :: st) = .ref q :: cs ad st := by
      show Value.ref (upd1 ad Z.1 q Z.1) :: cs (upd1 ad Z.1 q) st = _
      rw [upd1_s, hst']
    rw [e2] at this
    exact this
end AXM
