-- ===== calls of methods that are overridden, of a superclass, of strings =====
section AXP
variable {X : Option (Nat × (Nat → Int32))} {M : Mt} {d mc ms cu su pc : Nat} {lv : Lv} {st : List Value} {Z : Zt} {G : Gt} {L : Lt} {Q : Qt}
def LkU (own : String) (idx : Nat) (C owner : String) (x : MethodName) (M' : Mt) (n : Nat) : Prop := Cond.methodLink own idx x ∈ TB ∧ Cond.sameMethod x.cls owner x.name x.desc ∈ TB ∧ Cond.instanceMethod ⟨owner, x.name, x.desc⟩ ∈ TB ∧ (∃ b0 m0 r0, Cond.code ⟨owner, x.name, x.desc⟩ b0 m0 r0 ∈ TB) ∧ Cond.selects C x M'.1 ∈ TB ∧ Cond.instanceMethod M'.1 ∈ TB ∧ Cond.initialized M'.1.cls ∈ TB ∧ CW M' ∈ TB ∧ (owner ≠ "java/lang/invoke/MethodHandle" ∧ owner ≠ "java/lang/invoke/VarHandle" ∧ (parseMethodDescriptor x.desc).map (fun d => d.parameters.length) = some n) ∧ M'.2.2.1 ≤ 45
theorem ax_cU {idx n d' k ci : Nat} {C owner : String} {x : MethodName} {M' : Mt} {av st0 : List Value} {r : Value} {Z' : Zt} {G' : Gt} {L' : Lt} (hd : decode M.2.1 pc = .ok (.invokevirtual idx, 3)) (hlk : LkU M.1.cls idx C owner x M' n) (hA : AC M' d' 0 0 (.ref k :: av) Z G L (DQ (some r) Z' G' L')) (hst0 : st0 = av.reverse ++ .ref k :: st) (hsh : Z.2.1 k = some (.inl ci)) (hci : ∃ q : vw_C, CL[ci]? = some q ∧ q.1 = C) (hn9 : av.length = n) (hst : (st.map fun v => v.category).sum ≤ 8) (hdd : d' + 1 ≤ d) (hc1 : cu ≤ mc) (hc2 : su ≤ ms)
    (kk : AX X M d mc ms cu su (pc + 3) lv (r :: st) Z' G' L' Q) : AX X M d mc ms cu su pc lv st0 Z G L Q := by
  subst hst0
  intro p l e R s m args below meth c H locs ls dC dI tc ad A N0 ad0 Qr hC hW hl hs hv hg hn hr
  obtain ⟨k1, k2, k3, ⟨b0, m0, r0, k4⟩, k5, k6, k7, k8, k9, k10⟩ := hlk
  have hs2 := okS_app.mp hs
  obtain ⟨c1, c2, c3, c4, c5, c6, c7, c8, c9, c10, c11, c12⟩ := id hC
  obtain ⟨q, hq1, hq2⟩ := hci
  have hrecv : ∃ cell : Cell, H[ad k]? = some cell ∧ cell.vm.isStatics = false ∧ s.vm.findClass C = some cell.cls := by
    rw [← hq2]
    exact va_recv hW.1 hW.2.1 hq1 (cw_obj hW.2.2.2.2.2.2.2 hsh)
  have hcu : va_CU R s args M.1.cls C owner idx x M'.1 M'.2.1 M'.2.2.1 M'.2.2.2 (wsx M') (rmx d' 0 0) 0 0 n := by
    refine ⟨⟨rfl, rfl, by show d' + 1 ≤ R.frames; omega, by show 8 + (M'.2.2.1 + 11) + 64 * d' ≤ R.locals; omega, pay_in c6 (GoodIn_ws k8), List.mem_cons_self⟩, c6 _ k8, c6 _ k7, ⟨k9.1, k9.2.1⟩, fun sig h => ?_, c6 _ k1, c6 _ k2, va_Decl.of (c6 _ k3) (c6 _ k4), c6 _ k5, c6 _ k6⟩
    have h2 := k9.2.2
    rw [h] at h2
    exact (Option.some.inj h2).symm
  refine ax_back hC hW hl hs2.2.2 hv hg hn hr (va_runU (C := C) (b := ad k) (As := cs ad av) (rest := cs ad st) ⟨c1, c2, c3, c5, c6⟩ (hA l dC dI tc ad H.size) hcu ⟨Pcx_blind, hrecv, Wd_pre hW (av := .ref k :: av) ⟨hs2.2.1, okS_rev' hs2.1⟩⟩ rfl (by rw [cs_len]; exact hn9) hv.1 (by show cs ad (av.reverse ++ .ref k :: st) = _; rw [cs_app, cs_rev]; rfl) (lv_room (by rw [cs_cat]; exact hst)) hd ⟨by omega, by omega⟩) (fun _ _ _ _ h => by obtain ⟨rfl, rfl, rfl, rfl⟩ := h; exact kk)
/-- super.m(..), be it the superclass's own or inherited there -/
theorem callUp {p : Program} {l : Launch} {e : Env} {R : Room} {s : State} {m : MethodId} {args : Array Value} {below : List Frame} {meth : Method} {c : Code} {T : State} {locs : List Loc} {cells slots : Nat} (X : Stand p l e R s m args below meth c T locs cells slots) (hexec : p.tables.exec = Jvm.exec) {own : String} {index : Nat} {x y : MethodName} {bytes : ByteArray} {maxL : Nat} {ret : Option FieldType}
    (hown : s.vm.findClass own = some m.cls) (hlink : (Cond.methodLink own index x).before args s = true) (hsame : (Cond.sameMethod x.cls y.cls x.name x.desc).before args s = true) (hsup : (Cond.superclass own x.cls).before args s = true) (hxy : y.name = x.name ∧ y.desc = x.desc) (hup : x.cls = y.cls ∨ (Cond.superclass x.cls y.cls).before args s = true)
    (hinst : (Cond.instanceMethod y).before args s = true) (hcode : (Cond.code y bytes maxL ret).before args s = true) (hno : x.name ≠ "<init>")
    {W : Nat} {Pre : Pt → Array Value → Prop} {Post : Pt → Array Value → Option Value → Pt → Prop} (hK : Back l R p e below s args y 3 W Pre Post)
    {b : Addr} {cellB : Cell} {kB : Class} (hcell : T.heap[b]? = some cellB) (hobj : cellB.vm.isStatics = false) (hkB : s.vm.classes[cellB.cls]? = some kB)
    {g : JFrame} (hg : g.method = m) (hsize : g.locals.size = c.maxLocals) {argsL rest : List Value} (hlen : ∀ sig, parseMethodDescriptor y.desc = some sig → argsL.length = sig.parameters.length)
    (hstack : g.stack = argsL.reverse ++ .ref b :: rest) (hW : 2 * g.monitorRoom + (rest.map fun v => v.category).sum ≤ W) (hdg : decode c.code g.pc = .ok (.invokespecial index, 3))
    (hpre : ∀ vm₁, s.WarmedH vm₁ → Pre ⟨T.setVm vm₁, locs, cells, slots⟩ (Value.ref b :: argsL).toArray) :
    ∃ (v : Option Value) (vm₁ : Vm) (B : Pt), s.WarmedH vm₁ ∧ Stand p l e R s m args below meth c B.U B.locs B.cells B.slots ∧ Post ⟨T.setVm vm₁, locs, cells, slots⟩ (Value.ref b :: argsL).toArray v B ∧
      ∀ target, Steps p.tables e below (B.U.setTop { g with pc := g.pc + 3, stack := v.toList ++ rest }) target → Steps p.tables e below (T.setTop g) target := by
  obtain ⟨mk, methM, hnamed, hmethM, hstM, habM⟩ := Cond.instanceMethod_spec hinst
  obtain ⟨methM', cM, hmethM', -, -, -, -, -, -, hsigM⟩ := Cond.code_spec hnamed hcode
  cases hmethM.symm.trans hmethM'
  obtain ⟨ps, dk, kp, hps, hdk, hkp, hsuper, -, -, hnid⟩ := Cond.superclass_spec hown hsup
  obtain ⟨yc, yn, yd⟩ := y
  obtain ⟨rfl, rfl⟩ := hxy
  have hn : s.methodNamed? ⟨yc, x.name, x.desc⟩ = some mk := hnamed
  have hmc : s.vm.findClass yc = some mk.cls := findClass_of_methodNamed hnamed
  have hsub : s.vm.isSubclass ps mk.cls = true := by
    rcases hup with h | h
    · have hpm : ps = mk.cls := Option.some.inj (hps.symm.trans (by rw [h]; exact hmc))
      rw [hpm]; simp [Vm.isSubclass, Vm.isSubclassAux]
    · obtain ⟨ps2, dk2, kp2, hps2, hdk2, hkp2, hsuper2, -, -, hnid2⟩ := Cond.superclass_spec hps h
      have hpm : ps2 = mk.cls := Option.some.inj (hps2.symm.trans hmc)
      subst hpm
      unfold Vm.isSubclass
      have hpos : 0 < s.vm.classes.size := Nat.lt_of_le_of_lt (Nat.zero_le _) (Array.getElem?_eq_some_iff.mp hdk2).1
      obtain ⟨z, hz⟩ : ∃ z, s.vm.classes.size = z + 1 := ⟨s.vm.classes.size - 1, by omega⟩
      rw [hz]
      unfold Vm.isSubclassAux
      rw [hdk2]
      simp only [hsuper2]
      unfold Vm.isSubclassAux
      simp
  obtain ⟨vm₁, X₁, hstep₁⟩ := X.invokespecialUp hexec hown hlink hsame hn hmethM hstM habM hno hdk hnid hps hsuper hsub (a := b) (cell := cellB) hcell
    (fun z h => by rw [h] at hobj; cases hobj) hkB (g := g) hg (argsL := argsL) (rest := rest) (hlen _ hsigM) hstack hdg
  obtain ⟨v, B, X', hpost, hsteps⟩ := hK m meth c ⟨T.setVm vm₁, locs, cells, slots⟩ { g with stack := rest } (.invokespecial index) mk (Value.ref b :: argsL).toArray X₁ hg hsize hdg hW (X₁.named hnamed) (hpre vm₁ X₁.warmed)
  exact ⟨v, vm₁, B, X₁.warmed, X', hpost, fun target h => hstep₁ _ (by rw [doInvoke_state]; exact hsteps.trans h)⟩
def LkP (own : String) (idx : Nat) (x : MethodName) (M' : Mt) (n : Nat) : Prop := Cond.methodLink own idx x ∈ TB ∧ Cond.sameMethod x.cls M'.1.cls x.name x.desc ∈ TB ∧ Cond.superclass own x.cls ∈ TB ∧ (M'.1.name = x.name ∧ M'.1.desc = x.desc) ∧ (x.cls = M'.1.cls ∨ Cond.superclass x.cls M'.1.cls ∈ TB) ∧ Cond.instanceMethod M'.1 ∈ TB ∧ Cond.initialized M'.1.cls ∈ TB ∧ CW M' ∈ TB ∧ x.name ≠ "<init>" ∧ (parseMethodDescriptor M'.1.desc).map (fun d => d.parameters.length) = some n ∧ M'.2.2.1 ≤ 45
theorem ax_cP {idx n d' k ci : Nat} {x : MethodName} {M' : Mt} {av st0 : List Value} {r : Value} {Z' : Zt} {G' : Gt} {L' : Lt} (hd : decode M.2.1 pc = .ok (.invokespecial idx, 3)) (hlk : LkP M.1.cls idx x M' n) (hA : AC M' d' 0 0 (.ref k :: av) Z G L (DQ (some r) Z' G' L')) (hst0 : st0 = av.reverse ++ .ref k :: st) (hsh : Z.2.1 k = some (.inl ci)) (hn9 : av.length = n) (hst : (st.map fun v => v.category).sum ≤ 8) (hdd : d' + 1 ≤ d) (hc1 : cu ≤ mc) (hc2 : su ≤ ms)
    (kk : AX X M d mc ms cu su (pc + 3) lv (r :: st) Z' G' L' Q) : AX X M d mc ms cu su pc lv st0 Z G L Q := by
  subst hst0
  intro p l e R s m args below meth c H locs ls dC dI tc ad A N0 ad0 Qr hC hW hl hs hv hg hn hr
  obtain ⟨k1, k2, k3, k4, k5, k6, k7, k8, k9, k10, k11⟩ := hlk
  have hs2 := okS_app.mp hs
  obtain ⟨c1, c2, c3, c4, c5, c6, c7, c8, c9, c10, c11, c12⟩ := id hC
  have hci : ci < 13 := hW.2.2.2.2.2.2.2.2.2.2.2 k ci hsh
  obtain ⟨q, hq1⟩ : ∃ q : vw_C, CL[ci]? = some q := ⟨CL[ci]'hci, List.getElem?_eq_getElem hci⟩
  obtain ⟨cell, hcl1, hcl2, hcl3⟩ := va_recv hW.1 hW.2.1 hq1 (cw_obj (tc := tc) (ad := ad) (G := G) (L := L) hW.2.2.2.2.2.2.2 hsh)
  obtain ⟨kB, hkB, -⟩ := Vm.findClass_spec hcl3
  have hK : Back l R p e below s args M'.1 3 8 (PreOf R 0 0 (Pcx dC dI tc ad H.size (.ref k :: av) Z G L)) (PostOf (Qcx dC dI tc ad H.size Z G L (DQ (some r) Z' G' L')) 0 0 (va_A (cw tc ad Z G L) H.size)) := back_of (bytes := M'.2.1) (maxL := M'.2.2.1) (ret := M'.2.2.2) (hA l dC dI tc ad H.size) Pcx_blind rfl rfl (by show d' + 1 ≤ R.frames; omega) (by show 8 + (M'.2.2.1 + 11) + 64 * d' ≤ R.locals; omega) (pay_in c6 (GoodIn_ws k8)) List.mem_cons_self (fun a' U hW => word_at hW (Or.inl (by first | rfl | simp [Cond.onTables, Cond.keeps, Cond.steady])) (c6 _ k7))
  have hpre := Wd_pre hW (av := .ref k :: av) ⟨hs2.2.1, okS_rev' hs2.1⟩
  have run : va_Run p l e R s m args below meth c H locs cu su 0 0 (F0 m pc ls (cs ad (av.reverse ++ .ref k :: st))) (cs ad st) (Qcx dC dI tc ad H.size Z G L (DQ (some r) Z' G' L') (Value.ref (ad k) :: cs ad av).toArray) (va_A (cw tc ad Z G L) H.size) := by
    intro T hT Xs
    obtain ⟨v, vm₁, ⟨U', l2, c2', s2⟩, hW₁, X', ⟨g', mk, t, Lc, e1, e2, hq, h1, hL, h2, h3⟩, stp⟩ := callUp Xs c1 (bytes := M'.2.1) (maxL := M'.2.2.1) (ret := M'.2.2.2) c5 (c6 _ k1) (c6 _ k2) (c6 _ k3) k4 (k5.imp id (fun h => c6 _ h)) (c6 _ k6) (c6 _ k8) k9 hK (b := ad k) (cellB := cell) (by rw [hT]; exact hcl1) hcl2 hkB (g := F0 m pc ls (cs ad (av.reverse ++ .ref k :: st))) rfl (hv.1.trans c3.symm) (argsL := cs ad av) (rest := cs ad st) (fun sig h => by rw [cs_len, hn9]; have h2 := k10; rw [h] at h2; exact (Option.some.inj h2).symm) (by show cs ad (av.reverse ++ .ref k :: st) = _; rw [cs_app, cs_rev]; rfl) (lv_room (by rw [cs_cat]; exact hst)) (by rw [c2]; exact hd)
      (fun vm₁ hW₁ => ⟨by show cu + 0 ≤ R.cells; omega, by show su + 0 ≤ R.slots; omega, hpre (T.setVm vm₁) hT hW₁⟩)
    dsimp only [Pt.U, Pt.locs, Pt.cells, Pt.slots] at X' e1 e2 h1 h2 h3 stp
    subst h1; subst h2; subst h3
    exact ⟨v, (T.setVm vm₁).calling g' mk (Value.ref (ad k) :: cs ad av).toArray, t, U', Lc, hT, X', hL, e1, e2, hq, stp⟩
  exact ax_back hC hW hl hs2.2.2 hv hg hn hr run (fun _ _ _ _ h => by obtain ⟨rfl, rfl, rfl, rfl⟩ := h; exact kk)
/-- a method of a String constant -/
theorem ax_cT {idx n d' i : Nat} {M' : Mt} {av st0 : List Value} {r : Value} {Z' : Zt} {G' : Gt} {L' : Lt} (hd : decode M.2.1 pc = .ok (.invokevirtual idx, 3)) (hlk : LkV M.1.cls idx M' n) (hy : M'.1.cls = "java/lang/String") (hA : AC M' d' 0 0 (.ref (1000 + i) :: av) Z G L (DQ (some r) Z' G' L')) (hst0 : st0 = av.reverse ++ .ref (1000 + i) :: st) (hi : i < 7) (hn9 : av.length = n) (hst : (st.map fun v => v.category).sum ≤ 8) (hdd : d' + 1 ≤ d) (hc1 : cu ≤ mc) (hc2 : su ≤ ms)
    (kk : AX X M d mc ms cu su (pc + 3) lv (r :: st) Z' G' L' Q) : AX X M d mc ms cu su pc lv st0 Z G L Q := by
  subst hst0
  intro p l e R s m args below meth c H locs ls dC dI tc ad A N0 ad0 Qr hC hW hl hs hv hg hn hr
  obtain ⟨k1, k2, k3, k4, k5, k6, k7⟩ := hlk
  have hs2 := okS_app.mp hs
  obtain ⟨c1, c2, c3, c4, c5, c6, c7, c8, c9, c10, c11, c12⟩ := id hC
  have hrecv : ∃ cell : Cell, H[ad (1000 + i)]? = some cell ∧ cell.vm.isStatics = false ∧ s.vm.findClass M'.1.cls = some cell.cls := by
    rw [hy]
    exact vk_recv (i := i) (adK := fun j => ad (1000 + j)) hW.2.2.2.2.2.1.1 hi hW.2.2.2.1
  refine ax_back hC hW hl hs2.2.2 hv hg hn hr (va_runV (C := M'.1.cls) (b := ad (1000 + i)) (As := cs ad av) (rest := cs ad st) ⟨c1, c2, c3, c5, c6⟩ (hA l dC dI tc ad H.size) ⟨callB_of n c6 (GoodIn_ws k5) rfl rfl rfl (c6 _ k4) (c6 _ k1) k6 ⟨by show d' + 1 ≤ R.frames; omega, by show 8 + (M'.2.2.1 + 11) + 64 * d' ≤ R.locals; omega⟩, c6 _ k2, c6 _ k3⟩ ⟨Pcx_blind, hrecv, Wd_pre hW (av := .ref (1000 + i) :: av) ⟨hs2.2.1, okS_rev' hs2.1⟩⟩ rfl (by rw [cs_len]; exact hn9) hv.1 (by show cs ad (av.reverse ++ .ref (1000 + i) :: st) = _; rw [cs_app, cs_rev]; rfl) (lv_room (by rw [cs_cat]; exact hst)) hd ⟨by omega, by omega⟩) (fun _ _ _ _ h => by obtain ⟨rfl, rfl, rfl, rfl⟩ := h; exact kk)
end AXP
