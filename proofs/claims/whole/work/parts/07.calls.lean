-- ===== contracts out of the abstract judgement, and calls =====
theorem AO2.moved {C : FieldType} {u U : State} (hvm : u.vm.Alike U.vm) (h : AO2 (.array C) u) : AO2 (.array C) U := by
  obtain ⟨comp, c, k, h1, h2, h3, h4, h5⟩ := arrayOverA_spec h
  obtain ⟨k', hk', he⟩ := hvm.2.2 _ _ h3
  have hi : (U.vm.classes.findIdx? fun (x : Class) => match x.kind with | .array component _ => component == comp | _ => false) = some c := by
    have e1 := va_idx_bare U.vm comp
    have e2 := va_idx_bare u.vm comp
    first | rw [hvm.bare_eq] at e1 | rw [← hvm.bare_eq] at e1
    exact e1.symm.trans (e2.trans h2)
  have hkind : k'.kind = .array comp (.array C) := by rw [he]; exact h4
  have f1 : U.vm.findClass (FieldType.array C).toString = some comp := by rw [hvm.findClass]; exact h1
  have f2 : U.vm.findClass ("[" ++ (FieldType.array C).toString) = some c := by rw [hvm.findClass]; exact h5
  unfold AO2 Cond.before Cond.holds
  simp only [Cond.value]
  rw [f1, Option.bind_some]
  refine (congrArg (fun o : Option Nat => (o.bind (fun c => (U.vm.classes[c]?).map fun (k : Class) => match k.kind with | .array _ ty => decide (ty = FieldType.array C) && decide (U.vm.findClass ("[" ++ (FieldType.array C).toString) = some c) | _ => false) == some true)) hi).trans ?_
  simp [hk', hkind, f2]
theorem SF_in {ad : Nat → Nat} {A A' : Nat → Prop} {s U : State} {H : Heap} {locs : List Loc} (h : SF ad A s) (hS : va_S A s.heap H locs) (hW : s.WarmedH U.vm) (hU : U.heap = H) (hAA : ∀ q, A' q → A q) : SF ad A' U := by
  subst hU
  obtain ⟨h1, h2, h3, h4, h5, h6, h7, h8, h9, h10, h11⟩ := h
  exact ⟨((h1.moved hW.alike).kept hS.2.1).narrow hAA, fun q hq => vk_R.warm hW (h2 q hq), ((h3.moved hW.alike).kept hS.2.1).narrow hAA, ((h4.moved hW.alike).kept hS.2.1).narrow hAA, ((h5.moved hW.alike).kept hS.2.1).narrow hAA, fun q hq => va_Nw.warmM hW (h6 q hq), fun q hq => va_Nw.warmC hW (h7 q hq), h8.moved hW.alike, h9.moved hW.alike, h10.moved hW.alike, h11.imp (fun h => ((h.moved hW.alike).kept hS.2.1).narrow hAA) (fun h => ((h.moved hW.alike).kept hS.2.1).narrow hAA)⟩
theorem SF_ag {N : Nat} {ad ad' : Nat → Nat} {A : Nat → Prop} {s : State} (h : SF ad A s) (hg : Ag N ad ad') : SF ad' A s := by
  have e1 : (fun i => ad' (1000 + i)) = fun i => ad (1000 + i) := funext fun i => hg _ (Or.inr (by omega))
  have e2 : (fun i => ad' (1100 + i)) = fun i => ad (1100 + i) := funext fun i => hg _ (Or.inr (by omega))
  have e3 : ad' 2000 = ad 2000 := hg _ (Or.inr (by omega))
  have e4 : ad' 2500 = ad 2500 := hg _ (Or.inr (by omega))
  obtain ⟨h1, h2, h3, h4, h5, h6, h7, h8, h9, h10, h11⟩ := h
  refine ⟨by rw [e1, e2]; exact h1, fun q hq => ?_, by rw [e3]; exact h3, by rw [e3]; exact h4, h5, h6, h7, h8, h9, h10, by rw [e4]; exact h11⟩
  rw [hg _ (Or.inr (Nat.le_add_right 1000 _))]
  exact h2 q hq
theorem SX_ag {N : Nat} {X : Option (Nat × (Nat → Int32))} {ad ad' : Nat → Nat} {A : Nat → Prop} {s : State} (h : SX X ad A s) (hg : Ag N ad ad') : SX X ad' A s := by
  have e3 : ad' 3000 = ad 3000 := hg _ (Or.inr (by omega))
  cases X with
  | none => trivial
  | some q =>
    unfold SX at h ⊢
    rw [e3]
    exact h
theorem lg_sl_cs (ad : Nat → Nat) : ∀ av : List Value, (lg_sl (cs ad av)).length = (lg_sl av).length
  | [] => rfl
  | v :: t => by
    have ih := lg_sl_cs ad t
    unfold lg_sl at ih ⊢
    show (List.flatMap _ (cv ad v :: cs ad t)).length = _
    rw [List.flatMap_cons, List.flatMap_cons, List.length_append, List.length_append, ih, cv_cat]
    by_cases h : v.category = 2
    · rw [if_pos h, if_pos h]; rfl
    · rw [if_neg h, if_neg h]; rfl
theorem lv_args_cs (ad : Nat → Nat) : ∀ (av : List Value) (i j : Nat) (v : Value), lk (lv_args i av) j = some v → (j, cv ad v) ∈ lv_args i (cs ad av)
  | [], _, _, _, h => by cases h
  | w :: t, i, j, v, h => by
    show (j, cv ad v) ∈ (i, cv ad w) :: lv_args (if (cv ad w).category = 2 then i + 2 else i + 1) (cs ad t)
    rw [cv_cat]
    unfold lv_args lk at h
    cases e : Nat.beq i j with
    | true =>
      rw [show Nat.beq (i, w).1 j = true from e] at h
      cases h
      rw [Nat.eq_of_beq_eq_true e]
      exact List.mem_cons_self
    | false =>
      rw [show Nat.beq (i, w).1 j = false from e] at h
      exact List.mem_cons_of_mem _ (lv_args_cs ad t _ j v h)
theorem okL_args {N : Nat} : ∀ (av : List Value) (i : Nat), okS N av → okL N (lv_args i av)
  | [], _, _ => fun j v h => by cases h
  | w :: t, i, h => okL_cons (okL_args t _ h.2) h.1
theorem AC.intro {M : Mt} {d mc ms : Nat} {av : List Value} {Z : Zt} {G : Gt} {L : Lt} {Q : Qt} (hy : plainName M.1.cls = true) (hfit : (lg_sl av).length ≤ M.2.2.1) (k : AX none M d mc ms 0 0 0 (lv_args 0 av) [] Z G L Q) : AC M d mc ms av Z G L Q := by
  intro l dC dI tc ad sz
  refine Met.ofW (cc := M.2.1) (maxL := M.2.2.1) (ret := M.2.2.2) hy rfl ?_
  intro p e s m args below meth c s₁ B hml hv
  obtain ⟨rfl, hsz, hK, hP, hD0, hSF, hWF, hok⟩ := hv
  subst hsz
  have hts := atoms_spec (ws := wsx M) B.pre
  have hl := lv_entry (cs ad av) (n := M.2.2.1) (by rw [lg_sl_cs]; exact hfit)
  rw [lg_entry_eq]
  generalize (lg_sl (cs ad av) ++ List.replicate (M.2.2.1 - (lg_sl (cs ad av)).length) Slot.unset).toArray = ls at hl ⊢
  refine k p l e _ s m _ below meth c s.heap [] ls dC dI tc ad (va_A (cw tc ad Z G L) s.heap.size) Z.1 ad _ ⟨B.exec, B.bytes, hml, B.returns, findClass_of_methodNamed B.named, fun w h => hts w (List.mem_cons_of_mem _ h), B.notSynchronized, (name_of_methodNamed B.named B.method).1, Nat.le_refl _, Nat.le_refl _, Nat.le_refl _, Nat.le_refl _⟩ ⟨hK, hP, hD0.self, va_S.rf, fun q h => Or.inr h, hSF, trivial, hWF⟩ (okL_args av 0 hok) trivial ⟨hl.1, hl.2.1, fun j v h => hl.2.2 _ (lv_args_cs ad av 0 j v h)⟩ Ag_rf (Nat.le_refl _) ?_
  refine ⟨fun h => absurd rfl h, ?_⟩
  intro r Z' G' L' ad' H locs pc ls2 hq hW hokr hAg hN hRI
  obtain ⟨hK', hP', hD', hS', hA', hSF', -, hWF'⟩ := hW
  have hpost : ∀ t : State, t.heap = H → s.WarmedH t.vm → Qcx dC dI tc ad s.heap.size Z G L Q (cs ad av).toArray s (.returned (r.map (cv ad'))) t := fun t ht hWt => ⟨⟨r, Z', G', L', ad', rfl, hq, hAg, hN, hokr, hWF', by rw [ht]; exact hP', hD'⟩, hS'.F ht⟩
  have hlocks := B.notSynchronized
  cases r with
  | none => exact W.vret B.exec B.bytes (B.returns.trans hRI.2) hpost hS'.2.2 hRI.1
  | some v =>
    cases v with
    | int x =>
      obtain ⟨h1, ty, h2, h3⟩ := hRI
      exact W.zret B.exec B.bytes (B.returns.trans h2) h3 hpost hS'.2.2 h1
    | long x =>
      obtain ⟨h1, h2⟩ := hRI
      exact W.lret B.exec B.bytes (B.returns.trans h2) hpost hS'.2.2 h1
    | ref x =>
      obtain ⟨h1, rt, h2, h3⟩ := hRI
      exact W.aret B.exec B.bytes (B.returns.trans h2) h3 (Or.inr ⟨_, rfl⟩) hpost hS'.2.2 h1
    | _ => exact hRI.elim
theorem Pcx_blind {dC : Nat → ClassId} {dI : Nat → Nat → Nat} {tc : FieldType → ClassId} {ad : Nat → Nat} {sz : Nat} {av : List Value} {Z : Zt} {G : Gt} {L : Lt} : FrameBlind (Pcx dC dI tc ad sz av Z G L) := by
  intro a U g mk h
  obtain ⟨h0, h1, h2, h3, h4, h5, h6⟩ := h
  obtain ⟨q1, q2, q3, q4, q5, q6, q7, q8, q9, q10, q11⟩ := h5
  have hal : U.vm.Alike (U.calling g mk a).vm := Vm.Alike.refl U.vm
  refine ⟨h0, h1, va_K.moved hal h2, h3, h4, ⟨q1.moved hal, fun q hq => vk_R.same rfl (q2 q hq), q3.moved hal, q4.moved hal, q5.moved hal, fun q hq => va_Nw.same rfl rfl (q6 q hq), fun q hq => va_Nw.same rfl rfl (q7 q hq), q8.moved hal, q9.moved hal, q10.moved hal, q11.imp (fun h => h.moved hal) (fun h => h.moved hal)⟩, h6⟩
theorem Wd_free {X : Option (Nat × (Nat → Int32))} {dC : Nat → ClassId} {dI : Nat → Nat → Nat} {tc : FieldType → ClassId} {ad : Nat → Nat} {A : Nat → Prop} {Z : Zt} {G : Gt} {L : Lt} {s : State} {H : Heap} {locs : List Loc} (hW : Wd X dC dI tc ad A Z G L s H locs) : ∀ q, va_A (cw tc ad Z G L) H.size q → A q := by
  obtain ⟨hK, hP, hD, hS, hA, -⟩ := hW
  intro q h
  rcases h with ⟨k, e, h⟩ | h
  · exact hD.2 k _ h
  · exact hA q (Nat.le_trans hS.1 h)
theorem Wd_pre {X : Option (Nat × (Nat → Int32))} {dC : Nat → ClassId} {dI : Nat → Nat → Nat} {tc : FieldType → ClassId} {ad : Nat → Nat} {A : Nat → Prop} {Z : Zt} {G : Gt} {L : Lt} {s : State} {H : Heap} {locs : List Loc} (hW : Wd X dC dI tc ad A Z G L s H locs) {av : List Value} (hok : okS Z.1 av) (U : State) (hU : U.heap = H) (hWm : s.WarmedH U.vm) : Pcx dC dI tc ad H.size av Z G L (cs ad av).toArray U := by
  have hf := Wd_free hW
  obtain ⟨hK, hP, hD, hS, hA, hSF, -, hWF⟩ := hW
  exact ⟨rfl, by rw [hU], va_K.moved hWm.alike hK, by rw [hU]; exact hP, hD.weaken (fun _ _ _ _ => trivial), SF_in hSF hS hWm hU hf, hWF, hok⟩
theorem GoodIn_ws {M : Mt} (h : CW M ∈ TB) : GoodIn TB (wsx M) := by
  intro w hw
  rcases List.mem_cons.mp hw with rfl | h2
  · exact ⟨h, good_of_word (TB_good h)⟩
  · exact ⟨h2, good_of_word (TB_good h2)⟩
section AXC
variable {X : Option (Nat × (Nat → Int32))} {M : Mt} {d mc ms cu su pc : Nat} {lv : Lv} {st : List Value} {Z : Zt} {G : Gt} {L : Lt} {Q : Qt}
theorem ax_back {mc' ms' : Nat} {st0 : List Value} {Q' : Qt} {a : Array Value} {p : Program} {l : Launch} {e : Env} {R : Room} {s : State} {m : MethodId} {args : Array Value} {below : List Frame} {meth : Method} {c : Code} {H : Heap} {locs : List Loc} {ls : Array Slot} {dC : Nat → ClassId} {dI : Nat → Nat → Nat} {tc : FieldType → ClassId} {ad : Nat → Nat} {A : Nat → Prop} {N0 : Nat} {ad0 : Nat → Nat} {Qr : State → Prop}
    (hC : Cx M d mc ms p R s m args meth c) (hW : Wd X dC dI tc ad A Z G L s H locs) (hl : okL Z.1 lv) (hs : okS Z.1 st) (hv : LV ad ls M.2.2.1 lv) (hg : Ag N0 ad0 ad) (hn : N0 ≤ Z.1) (hr : Rt X M mc ms Q p l e R s m args below meth c dC dI tc A N0 ad0 Qr)
    (run : va_Run p l e R s m args below meth c H locs cu su mc' ms' (F0 m pc ls st0) (cs ad st) (Qcx dC dI tc ad H.size Z G L Q' a) (va_A (cw tc ad Z G L) H.size))
    (kk : ∀ (r : Option Value) (Z' : Zt) (G' : Gt) (L' : Lt), Q' r Z' G' L' → AX X M d mc ms (cu + mc') (su + ms') (pc + 3) lv (r.toList ++ st) Z' G' L' Q) : W p l e R s m args below meth c H locs cu su Qr (F0 m pc ls st0) := by
  intro T hT Xs
  have hfree := Wd_free hW
  obtain ⟨v, st₀, t, T', Lc, h0, X', hL, e1, e2, ⟨⟨r, Z', G', L', ad', hv', hq, hag, hN', hok', hWF', hP', hD'⟩, hz, hk⟩, stp⟩ := run T hT Xs
  cases hv'
  obtain ⟨hK, hP, hD, hS, hA, hSF, hSX, hWF⟩ := hW
  rw [h0] at hz hk
  obtain ⟨t2, a1, b1⟩ := kk r Z' G' L' hq p l e R s m args below meth c T'.heap (locs ++ Lc) ls dC dI tc ad' A N0 ad0 Qr hC ⟨hK, by rw [e1]; exact hP', hD'.weaken (fun k q _ h => hfree _ h),
    ⟨Nat.le_trans hS.1 (by rw [e1]; exact hz), fun q h1 h2 => by rw [e1, hk q (Nat.lt_of_lt_of_le h1 hS.1) (fun z => h2 (hfree q z))]; exact hS.2.1 q h1 h2, fun q hq => by
      rcases List.mem_append.mp hq with h | h
      · exact hS.2.2 q h
      · exact hfree _ (hL q h)⟩, hA, SF_ag hSF hag, SX_ag hSX hag, hWF'⟩ (okL_mono hN' hl) (okS_app.mpr ⟨by
        cases r with
        | none => trivial
        | some w => exact ⟨hok' w rfl, trivial⟩, okS_mono hN' hs⟩) (LV_ag hag hl hv) (Ag_tr hn hg hag) (Nat.le_trans hn hN') hr T' rfl X'
  refine ⟨t2, stp t2 ?_, b1⟩
  rw [cs_app, cs_ag hag hs] at a1
  have e9 : (r.map (cv ad')).toList = cs ad' r.toList := by cases r <;> rfl
  rw [e9]
  exact a1
def LkS (own : String) (idx : Nat) (M' : Mt) (n : Nat) : Prop := Cond.methodLink own idx M'.1 ∈ TB ∧ Cond.static M'.1 ∈ TB ∧ Cond.initialized M'.1.cls ∈ TB ∧ CW M' ∈ TB ∧ (M'.1.cls ≠ "java/lang/invoke/MethodHandle" ∧ M'.1.cls ≠ "java/lang/invoke/VarHandle" ∧ (parseMethodDescriptor M'.1.desc).map (fun d => d.parameters.length) = some n) ∧ M'.2.2.1 ≤ 45
theorem ax_callS {idx n d' mc' ms' : Nat} {M' : Mt} {av st0 : List Value} {Q' : Qt} (hd : decode M.2.1 pc = .ok (.invokestatic idx, 3)) (hlk : LkS M.1.cls idx M' n) (hA : AC M' d' mc' ms' av Z G L Q') (hst0 : st0 = av.reverse ++ st) (hn9 : av.length = n) (hst : (st.map fun v => v.category).sum ≤ 8) (hdd : d' + 1 ≤ d) (hc1 : cu + mc' ≤ mc) (hc2 : su + ms' ≤ ms)
    (kk : ∀ (r : Option Value) (Z' : Zt) (G' : Gt) (L' : Lt), Q' r Z' G' L' → AX X M d mc ms (cu + mc') (su + ms') (pc + 3) lv (r.toList ++ st) Z' G' L' Q) : AX X M d mc ms cu su pc lv st0 Z G L Q := by
  subst hst0
  intro p l e R s m args below meth c H locs ls dC dI tc ad A N0 ad0 Qr hC hW hl hs hv hg hn hr
  obtain ⟨k1, k2, k3, k4, k5, k6⟩ := hlk
  have hs2 := okS_app.mp hs
  obtain ⟨c1, c2, c3, c4, c5, c6, c7, c8, c9, c10, c11, c12⟩ := id hC
  refine ax_back hC hW hl hs2.2 hv hg hn hr (va_runS (As := cs ad av) (rest := cs ad st) ⟨c1, c2, c3, c5, c6⟩ (hA l dC dI tc ad H.size) ⟨callB_of n c6 (GoodIn_ws k4) rfl rfl rfl (c6 _ k3) (c6 _ k1) k5 ⟨by show d' + 1 ≤ R.frames; omega, by show 8 + (M'.2.2.1 + 11) + 64 * d' ≤ R.locals; omega⟩, c6 _ k2⟩ ⟨Pcx_blind, Wd_pre hW (okS_rev' hs2.1)⟩ rfl (by rw [cs_len]; exact hn9) hv.1 (by show cs ad (av.reverse ++ st) = _; rw [cs_app, cs_rev]) (lv_room (by rw [cs_cat]; exact hst)) hd ⟨by omega, by omega⟩) kk
def LkV (own : String) (idx : Nat) (M' : Mt) (n : Nat) : Prop := Cond.methodLink own idx M'.1 ∈ TB ∧ Cond.instanceMethod M'.1 ∈ TB ∧ Cond.selects M'.1.cls M'.1 M'.1 ∈ TB ∧ Cond.initialized M'.1.cls ∈ TB ∧ CW M' ∈ TB ∧ (M'.1.cls ≠ "java/lang/invoke/MethodHandle" ∧ M'.1.cls ≠ "java/lang/invoke/VarHandle" ∧ (parseMethodDescriptor M'.1.desc).map (fun d => d.parameters.length) = some n) ∧ M'.2.2.1 ≤ 45
theorem cw_get {tc : FieldType → ClassId} {ad : Nat → Nat} {k : Nat} (h : k < Z.1) : (cw tc ad Z G L)[k]? = some (ad k, cellOf tc ad Z G L k) := by
  unfold cw
  rw [List.getElem?_map, List.getElem?_range h]
  rfl
theorem cw_obj {tc : FieldType → ClassId} {ad : Nat → Nat} {k ci : Nat} (hF : WF Z) (h : Z.2.1 k = some (.inl ci)) : (cw tc ad Z G L)[k]? = some (ad k, .inr (ci, (List.range (nF ci)).map (fun i => fv ad (tyF ci i) Z G L k i))) := by
  rw [cw_get (hF.2.1 k _ h)]
  unfold cellOf
  rw [h]
theorem cw_arr {tc : FieldType → ClassId} {ad : Nat → Nat} {k : Nat} {ty : FieldType} {n : Nat} (hF : WF Z) (h : Z.2.1 k = some (.inr (ty, n))) : (cw tc ad Z G L)[k]? = some (ad k, .inl (tc ty, av9 ad ty n Z G L k)) := by
  rw [cw_get (hF.2.1 k _ h)]
  unfold cellOf
  rw [h]
theorem ax_callV {idx n d' mc' ms' k ci : Nat} {M' : Mt} {av st0 : List Value} {Q' : Qt} (hd : decode M.2.1 pc = .ok (.invokevirtual idx, 3)) (hlk : LkV M.1.cls idx M' n) (hA : AC M' d' mc' ms' (.ref k :: av) Z G L Q') (hst0 : st0 = av.reverse ++ .ref k :: st) (hsh : Z.2.1 k = some (.inl ci)) (hci : ∃ q : vw_C, CL[ci]? = some q ∧ q.1 = M'.1.cls) (hn9 : av.length = n) (hst : (st.map fun v => v.category).sum ≤ 8) (hdd : d' + 1 ≤ d) (hc1 : cu + mc' ≤ mc) (hc2 : su + ms' ≤ ms)
    (kk : ∀ (r : Option Value) (Z' : Zt) (G' : Gt) (L' : Lt), Q' r Z' G' L' → AX X M d mc ms (cu + mc') (su + ms') (pc + 3) lv (r.toList ++ st) Z' G' L' Q) : AX X M d mc ms cu su pc lv st0 Z G L Q := by
  subst hst0
  intro p l e R s m args below meth c H locs ls dC dI tc ad A N0 ad0 Qr hC hW hl hs hv hg hn hr
  obtain ⟨k1, k2, k3, k4, k5, k6, k7⟩ := hlk
  have hs2 := okS_app.mp hs
  obtain ⟨c1, c2, c3, c4, c5, c6, c7, c8, c9, c10, c11, c12⟩ := id hC
  obtain ⟨q, hq1, hq2⟩ := hci
  have hrecv : ∃ cell : Cell, H[ad k]? = some cell ∧ cell.vm.isStatics = false ∧ s.vm.findClass M'.1.cls = some cell.cls := by
    rw [← hq2]
    exact va_recv hW.1 hW.2.1 hq1 (cw_obj hW.2.2.2.2.2.2.2 hsh)
  refine ax_back hC hW hl hs2.2.2 hv hg hn hr (va_runV (C := M'.1.cls) (b := ad k) (As := cs ad av) (rest := cs ad st) ⟨c1, c2, c3, c5, c6⟩ (hA l dC dI tc ad H.size) ⟨callB_of n c6 (GoodIn_ws k5) rfl rfl rfl (c6 _ k4) (c6 _ k1) k6 ⟨by show d' + 1 ≤ R.frames; omega, by show 8 + (M'.2.2.1 + 11) + 64 * d' ≤ R.locals; omega⟩, c6 _ k2, c6 _ k3⟩ ⟨Pcx_blind, hrecv, Wd_pre hW (av := .ref k :: av) ⟨hs2.2.1, okS_rev' hs2.1⟩⟩ rfl (by rw [cs_len]; exact hn9) hv.1 (by show cs ad (av.reverse ++ .ref k :: st) = _; rw [cs_app, cs_rev]; rfl) (lv_room (by rw [cs_cat]; exact hst)) hd ⟨by omega, by omega⟩) kk
end AXC
