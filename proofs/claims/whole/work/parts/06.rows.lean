-- ===== rows of the abstract machine: stack, locals, numbers, branches =====
theorem cs_len (ad : Nat → Nat) : ∀ st : List Value, (cs ad st).length = st.length
  | [] => rfl
  | _ :: t => congrArg Nat.succ (cs_len ad t)
theorem cs_app (ad : Nat → Nat) : ∀ a b : List Value, cs ad (a ++ b) = cs ad a ++ cs ad b
  | [], _ => rfl
  | v :: t, b => congrArg (cv ad v :: ·) (cs_app ad t b)
theorem cs_rev (ad : Nat → Nat) : ∀ a : List Value, cs ad a.reverse = (cs ad a).reverse
  | [] => rfl
  | v :: t => by rw [List.reverse_cons, cs_app, cs_rev ad t]; show _ = (cv ad v :: cs ad t).reverse; rw [List.reverse_cons]; rfl
theorem cv_cat (ad : Nat → Nat) (v : Value) : (cv ad v).category = v.category := by cases v <;> rfl
theorem cs_cat (ad : Nat → Nat) : ∀ st : List Value, ((cs ad st).map fun v => v.category) = st.map fun v => v.category
  | [] => rfl
  | v :: t => by show (cv ad v).category :: _ = v.category :: _; rw [cv_cat, cs_cat ad t]
theorem okS_app {N : Nat} : ∀ {a b : List Value}, okS N (a ++ b) ↔ okS N a ∧ okS N b
  | [], _ => ⟨fun h => ⟨trivial, h⟩, fun h => h.2⟩
  | v :: t, b => by
    show okv N v ∧ okS N (t ++ b) ↔ (okv N v ∧ okS N t) ∧ okS N b
    rw [okS_app (a := t)]
    exact ⟨fun h => ⟨⟨h.1, h.2.1⟩, h.2.2⟩, fun h => ⟨h.1.1, h.1.2, h.2⟩⟩
theorem okS_rev {N : Nat} : ∀ {a : List Value}, okS N a → okS N a.reverse
  | [], _ => trivial
  | v :: t, h => by rw [List.reverse_cons]; exact okS_app.mpr ⟨okS_rev h.2, h.1, trivial⟩
theorem okS_rev' {N : Nat} {a : List Value} (h : okS N a.reverse) : okS N a := by have := okS_rev h; rwa [List.reverse_reverse] at this
theorem okv_mono {N N' : Nat} (h : N ≤ N') {v : Value} (hv : okv N v) : okv N' v := by
  cases v <;> first | exact trivial | exact hv.elim (fun q => Or.inl (Nat.lt_of_lt_of_le q h)) Or.inr
theorem okS_mono {N N' : Nat} (h : N ≤ N') : ∀ {st : List Value}, okS N st → okS N' st
  | [], _ => trivial
  | _ :: _, hs => ⟨okv_mono h hs.1, okS_mono h hs.2⟩
theorem okL_mono {N N' : Nat} (h : N ≤ N') {lv : Lv} (hl : okL N lv) : okL N' lv := fun j v q => okv_mono h (hl j v q)
theorem cv_ag {N : Nat} {ad ad' : Nat → Nat} (h : Ag N ad ad') {v : Value} (hv : okv N v) : cv ad' v = cv ad v := by
  cases v <;> first | rfl | exact congrArg Value.ref (h _ hv)
theorem cs_ag {N : Nat} {ad ad' : Nat → Nat} (h : Ag N ad ad') : ∀ {st : List Value}, okS N st → cs ad' st = cs ad st
  | [], _ => rfl
  | v :: t, hs => by show cv ad' v :: cs ad' t = cv ad v :: cs ad t; rw [cv_ag h hs.1, cs_ag h hs.2]
theorem LV_ag {N nL : Nat} {ad ad' : Nat → Nat} {ls : Array Slot} {lv : Lv} (h : Ag N ad ad') (hl : okL N lv) (hv : LV ad ls nL lv) : LV ad' ls nL lv := ⟨hv.1, hv.2.1, fun j v q => by rw [cv_ag h (hl j v q)]; exact hv.2.2 j v q⟩
theorem Ag_tr {N N' : Nat} {a b c : Nat → Nat} (hN : N ≤ N') (h1 : Ag N a b) (h2 : Ag N' b c) : Ag N a c := fun k q => (h2 k (q.imp (fun z => Nat.lt_of_lt_of_le z hN) id)).trans (h1 k q)
theorem Ag_rf {N : Nat} {a : Nat → Nat} : Ag N a a := fun _ _ => rfl
def n2 (lv : Lv) (i : Nat) : Bool := match i with
  | 0 => true
  | i + 1 => match lk lv i with
    | some v => !(v.category == 2)
    | none => true
def subl (lv : Lv) : Lv → Prop
  | [] => True
  | q :: t => lk lv q.1 = some q.2 ∧ subl lv t
theorem subl_at {lv : Lv} : ∀ {l2 : Lv}, subl lv l2 → ∀ j v, lk l2 j = some v → lk lv j = some v
  | [], _, j, v, h => by cases h
  | q :: t, hs, j, v, h => by
    unfold lk at h
    cases e : Nat.beq q.1 j with
    | true =>
      rw [e] at h
      have e2 := Nat.eq_of_beq_eq_true e
      cases h
      rw [← e2]
      exact hs.1
    | false =>
      rw [e] at h
      exact subl_at hs.2 j v h
theorem lk_dom : ∀ {lv : Lv} {j : Nat} {v : Value}, lk lv j = some v → j ∈ lv.map (·.1)
  | [], _, _, h => by cases h
  | q :: t, j, v, h => by
    unfold lk at h
    cases e : Nat.beq q.1 j with
    | true => rw [← Nat.eq_of_beq_eq_true e]; exact List.mem_cons_self
    | false => rw [e] at h; exact List.mem_cons_of_mem _ (lk_dom h)
def dd (ad : Nat → Nat) (lv : Lv) : Lv := (lv.map (·.1)).filterMap (fun j => (lk lv j).map (fun v => (j, cv ad v)))
theorem dd_has {ad : Nat → Nat} {ls : Array Slot} {nL : Nat} {lv : Lv} (h : LV ad ls nL lv) : lv_has ls nL (dd ad lv) := by
  refine ⟨h.1, h.2.1, fun q hq => ?_⟩
  obtain ⟨j, -, hj⟩ := List.mem_filterMap.mp hq
  cases e : lk lv j with
  | none => rw [e] at hj; cases hj
  | some v => rw [e] at hj; cases hj; exact h.2.2 j v e
theorem dd_mem {ad : Nat → Nat} {lv : Lv} {j : Nat} {v : Value} (h : lk lv j = some v) : (j, cv ad v) ∈ dd ad lv := List.mem_filterMap.mpr ⟨j, lk_dom h, by rw [h]; rfl⟩
theorem LV_st1 {ad : Nat → Nat} {ls' : Array Slot} {nL i : Nat} {lv : Lv} {x : Value} (h2 : n2 lv i = true) (h : lv_has ls' nL ((i, cv ad x) :: (dd ad lv).filter (fun q => !(q.1 == i) && !(q.1 + 1 == i && q.2.category == 2)))) : LV ad ls' nL ((i, x) :: lv) := by
  refine ⟨h.1, h.2.1, fun j v q => ?_⟩
  unfold lk at q
  cases e : Nat.beq i j with
  | true =>
    rw [show Nat.beq (i, x).1 j = true from e] at q
    cases q
    rw [← Nat.eq_of_beq_eq_true e]
    exact h.2.2 (i, cv ad x) List.mem_cons_self
  | false =>
    rw [show Nat.beq (i, x).1 j = false from e] at q
    have hne : ¬ j = i := fun z => by rw [z, Nat.beq_refl] at e; cases e
    refine h.2.2 (j, cv ad v) (List.mem_cons_of_mem _ (List.mem_filter.mpr ⟨dd_mem q, ?_⟩))
    rw [Bool.and_eq_true]
    refine ⟨by simp [hne], ?_⟩
    by_cases h3 : j + 1 = i
    · subst h3
      have h4 : (match lk lv j with | some v => !(v.category == 2) | none => true) = true := h2
      rw [show lk lv j = some v from q] at h4
      simp only [cv_cat]
      have h5 : (!(v.category == 2)) = true := h4
      simp at h5 ⊢
      exact h5
    · simp [h3]
theorem okL_cons {N i : Nat} {lv : Lv} {x : Value} (h : okL N lv) (hx : okv N x) : okL N ((i, x) :: lv) := by
  intro j v q
  unfold lk at q
  cases e : Nat.beq i j with
  | true => rw [show Nat.beq (i, x).1 j = true from e] at q; cases q; exact hx
  | false => rw [show Nat.beq (i, x).1 j = false from e] at q; exact h j v q
section AXR
variable {X : Option (Nat × (Nat → Int32))} {M : Mt} {d mc ms cu su pc : Nat} {lv : Lv} {st : List Value} {Z : Zt} {G : Gt} {L : Lt} {Q : Qt}

theorem ax_iconst {n : Int} {v : Int32} (hd : decode M.2.1 pc = .ok (.iconst n, 1)) (hv1 : Int32.ofInt n = v) (k : AX X M d mc ms cu su (pc + 1) lv (.int v :: st) Z G L Q) : AX X M d mc ms cu su pc lv st Z G L Q := by
  intro p l e R s m args below meth c H locs ls dC dI tc ad A N0 ad0 Qr hC hW hl hs hv hg hn hr
  exact lv_iconst hC.1 hC.2.1 hd hv1 (k p l e R s m args below meth c H locs ls dC dI tc ad A N0 ad0 Qr hC hW hl ⟨trivial, hs⟩ hv hg hn hr)
theorem ax_bipush {n : Int} {v : Int32} (hd : decode M.2.1 pc = .ok (.bipush n, 2)) (hv1 : (Int8.ofInt n).toInt32 = v) (k : AX X M d mc ms cu su (pc + 2) lv (.int v :: st) Z G L Q) : AX X M d mc ms cu su pc lv st Z G L Q := by
  intro p l e R s m args below meth c H locs ls dC dI tc ad A N0 ad0 Qr hC hW hl hs hv hg hn hr
  exact lv_bipush hC.1 hC.2.1 hd hv1 (k p l e R s m args below meth c H locs ls dC dI tc ad A N0 ad0 Qr hC hW hl ⟨trivial, hs⟩ hv hg hn hr)
theorem ax_sipush {n : Int} {v : Int32} (hd : decode M.2.1 pc = .ok (.sipush n, 3)) (hv1 : (Int16.ofInt n).toInt32 = v) (k : AX X M d mc ms cu su (pc + 3) lv (.int v :: st) Z G L Q) : AX X M d mc ms cu su pc lv st Z G L Q := by
  intro p l e R s m args below meth c H locs ls dC dI tc ad A N0 ad0 Qr hC hW hl hs hv hg hn hr
  exact lv_sipush hC.1 hC.2.1 hd hv1 (k p l e R s m args below meth c H locs ls dC dI tc ad A N0 ad0 Qr hC hW hl ⟨trivial, hs⟩ hv hg hn hr)
theorem ax_lconst {n : Fin 2} {v : Int64} (hd : decode M.2.1 pc = .ok (.lconst n, 1)) (hv1 : Int64.ofNat (n : Nat) = v) (k : AX X M d mc ms cu su (pc + 1) lv (.long v :: st) Z G L Q) : AX X M d mc ms cu su pc lv st Z G L Q := by
  intro p l e R s m args below meth c H locs ls dC dI tc ad A N0 ad0 Qr hC hW hl hs hv hg hn hr
  exact lv_lconst hC.1 hC.2.1 hd hv1 (k p l e R s m args below meth c H locs ls dC dI tc ad A N0 ad0 Qr hC hW hl ⟨trivial, hs⟩ hv hg hn hr)
theorem ax_ldc {idx : Nat} {v : Int32} (hd : decode M.2.1 pc = .ok (.ldc idx, 2)) (hw : Cond.constant M.1.cls idx v ∈ TB) (k : AX X M d mc ms cu su (pc + 2) lv (.int v :: st) Z G L Q) : AX X M d mc ms cu su pc lv st Z G L Q := by
  intro p l e R s m args below meth c H locs ls dC dI tc ad A N0 ad0 Qr hC hW hl hs hv hg hn hr
  exact lv_ldc hC.1 hC.2.1 hC.2.2.2.2.1 (hC.2.2.2.2.2.1 _ hw) hd (k p l e R s m args below meth c H locs ls dC dI tc ad A N0 ad0 Qr hC hW hl ⟨trivial, hs⟩ hv hg hn hr)
theorem ax_ldc2 {idx : Nat} {v : Int64} (hd : decode M.2.1 pc = .ok (.ldc2_w idx, 3)) (hw : Cond.constantLong M.1.cls idx v ∈ TB) (k : AX X M d mc ms cu su (pc + 3) lv (.long v :: st) Z G L Q) : AX X M d mc ms cu su pc lv st Z G L Q := by
  intro p l e R s m args below meth c H locs ls dC dI tc ad A N0 ad0 Qr hC hW hl hs hv hg hn hr
  exact lv_ldc2 hC.1 hC.2.1 hC.2.2.2.2.1 (hC.2.2.2.2.2.1 _ hw) hd (k p l e R s m args below meth c H locs ls dC dI tc ad A N0 ad0 Qr hC hW hl ⟨trivial, hs⟩ hv hg hn hr)
theorem ax_iload_n {k : Fin 4} {i : Nat} {x : Int32} (hd : decode M.2.1 pc = .ok (.iload_n k, 1)) (hi : (k : Nat) = i) (h1 : lk lv i = some (.int x)) (kk : AX X M d mc ms cu su (pc + 1) lv (.int x :: st) Z G L Q) : AX X M d mc ms cu su pc lv st Z G L Q := by
  intro p l e R s m args below meth c H locs ls dC dI tc ad A N0 ad0 Qr hC hW hl hs hv hg hn hr
  exact lv_iload_n hC.1 hC.2.1 hd hi (hv.2.2 i _ h1) (kk p l e R s m args below meth c H locs ls dC dI tc ad A N0 ad0 Qr hC hW hl ⟨trivial, hs⟩ hv hg hn hr)
theorem ax_iload {i : Nat} {x : Int32} (hd : decode M.2.1 pc = .ok (.iload i, 2)) (h1 : lk lv i = some (.int x)) (kk : AX X M d mc ms cu su (pc + 2) lv (.int x :: st) Z G L Q) : AX X M d mc ms cu su pc lv st Z G L Q := by
  intro p l e R s m args below meth c H locs ls dC dI tc ad A N0 ad0 Qr hC hW hl hs hv hg hn hr
  exact lv_iload hC.1 hC.2.1 hd (hv.2.2 i _ h1) (kk p l e R s m args below meth c H locs ls dC dI tc ad A N0 ad0 Qr hC hW hl ⟨trivial, hs⟩ hv hg hn hr)
theorem ax_lload_n {k : Fin 4} {i : Nat} {x : Int64} (hd : decode M.2.1 pc = .ok (.lload_n k, 1)) (hi : (k : Nat) = i) (h1 : lk lv i = some (.long x)) (kk : AX X M d mc ms cu su (pc + 1) lv (.long x :: st) Z G L Q) : AX X M d mc ms cu su pc lv st Z G L Q := by
  intro p l e R s m args below meth c H locs ls dC dI tc ad A N0 ad0 Qr hC hW hl hs hv hg hn hr
  exact lv_lload_n hC.1 hC.2.1 hd hi (hv.2.2 i _ h1) (kk p l e R s m args below meth c H locs ls dC dI tc ad A N0 ad0 Qr hC hW hl ⟨trivial, hs⟩ hv hg hn hr)
theorem ax_lload {i : Nat} {x : Int64} (hd : decode M.2.1 pc = .ok (.lload i, 2)) (h1 : lk lv i = some (.long x)) (kk : AX X M d mc ms cu su (pc + 2) lv (.long x :: st) Z G L Q) : AX X M d mc ms cu su pc lv st Z G L Q := by
  intro p l e R s m args below meth c H locs ls dC dI tc ad A N0 ad0 Qr hC hW hl hs hv hg hn hr
  exact lv_lload hC.1 hC.2.1 hd (hv.2.2 i _ h1) (kk p l e R s m args below meth c H locs ls dC dI tc ad A N0 ad0 Qr hC hW hl ⟨trivial, hs⟩ hv hg hn hr)
theorem ax_aload_n {k : Fin 4} {i : Nat} {x : Nat} (hd : decode M.2.1 pc = .ok (.aload_n k, 1)) (hi : (k : Nat) = i) (h1 : lk lv i = some (.ref x)) (kk : AX X M d mc ms cu su (pc + 1) lv (.ref x :: st) Z G L Q) : AX X M d mc ms cu su pc lv st Z G L Q := by
  intro p l e R s m args below meth c H locs ls dC dI tc ad A N0 ad0 Qr hC hW hl hs hv hg hn hr
  exact lv_aload_n hC.1 hC.2.1 hd hi (hv.2.2 i _ h1) (kk p l e R s m args below meth c H locs ls dC dI tc ad A N0 ad0 Qr hC hW hl ⟨hl i _ h1, hs⟩ hv hg hn hr)
theorem ax_aload {i : Nat} {x : Nat} (hd : decode M.2.1 pc = .ok (.aload i, 2)) (h1 : lk lv i = some (.ref x)) (kk : AX X M d mc ms cu su (pc + 2) lv (.ref x :: st) Z G L Q) : AX X M d mc ms cu su pc lv st Z G L Q := by
  intro p l e R s m args below meth c H locs ls dC dI tc ad A N0 ad0 Qr hC hW hl hs hv hg hn hr
  exact lv_aload hC.1 hC.2.1 hd (hv.2.2 i _ h1) (kk p l e R s m args below meth c H locs ls dC dI tc ad A N0 ad0 Qr hC hW hl ⟨hl i _ h1, hs⟩ hv hg hn hr)
theorem ax_istore_n {k : Fin 4} {i : Nat} {x : Int32} (hd : decode M.2.1 pc = .ok (.istore_n k, 1)) (hi : (k : Nat) = i) (h1 : i < M.2.2.1) (h2 : n2 lv i = true) (kk : AX X M d mc ms cu su (pc + 1) ((i, .int x) :: lv) st Z G L Q) : AX X M d mc ms cu su pc lv (.int x :: st) Z G L Q := by
  intro p l e R s m args below meth c H locs ls dC dI tc ad A N0 ad0 Qr hC hW hl hs hv hg hn hr
  exact lv_istore_n hC.1 hC.2.1 hd hi (dd_has hv) h1 rfl (fun ls' h9 => (kk p l e R s m args below meth c H locs ls' dC dI tc ad A N0 ad0 Qr hC hW (okL_cons hl hs.1) hs.2 (LV_st1 h2 h9) hg hn hr))
theorem ax_istore  {i : Nat} {x : Int32} (hd : decode M.2.1 pc = .ok (.istore i, 2))  (h1 : i < M.2.2.1) (h2 : n2 lv i = true) (kk : AX X M d mc ms cu su (pc + 2) ((i, .int x) :: lv) st Z G L Q) : AX X M d mc ms cu su pc lv (.int x :: st) Z G L Q := by
  intro p l e R s m args below meth c H locs ls dC dI tc ad A N0 ad0 Qr hC hW hl hs hv hg hn hr
  exact lv_istore hC.1 hC.2.1 hd  (dd_has hv) h1 rfl (fun ls' h9 => (kk p l e R s m args below meth c H locs ls' dC dI tc ad A N0 ad0 Qr hC hW (okL_cons hl hs.1) hs.2 (LV_st1 h2 h9) hg hn hr))
theorem ax_astore_n {k : Fin 4} {i : Nat} {x : Nat} (hd : decode M.2.1 pc = .ok (.astore_n k, 1)) (hi : (k : Nat) = i) (h1 : i < M.2.2.1) (h2 : n2 lv i = true) (kk : AX X M d mc ms cu su (pc + 1) ((i, .ref x) :: lv) st Z G L Q) : AX X M d mc ms cu su pc lv (.ref x :: st) Z G L Q := by
  intro p l e R s m args below meth c H locs ls dC dI tc ad A N0 ad0 Qr hC hW hl hs hv hg hn hr
  exact lv_astore_n hC.1 hC.2.1 hd hi (dd_has hv) h1 rfl (fun ls' h9 => (kk p l e R s m args below meth c H locs ls' dC dI tc ad A N0 ad0 Qr hC hW (okL_cons hl hs.1) hs.2 (LV_st1 h2 h9) hg hn hr))
theorem ax_astore  {i : Nat} {x : Nat} (hd : decode M.2.1 pc = .ok (.astore i, 2))  (h1 : i < M.2.2.1) (h2 : n2 lv i = true) (kk : AX X M d mc ms cu su (pc + 2) ((i, .ref x) :: lv) st Z G L Q) : AX X M d mc ms cu su pc lv (.ref x :: st) Z G L Q := by
  intro p l e R s m args below meth c H locs ls dC dI tc ad A N0 ad0 Qr hC hW hl hs hv hg hn hr
  exact lv_astore hC.1 hC.2.1 hd  (dd_has hv) h1 rfl (fun ls' h9 => (kk p l e R s m args below meth c H locs ls' dC dI tc ad A N0 ad0 Qr hC hW (okL_cons hl hs.1) hs.2 (LV_st1 h2 h9) hg hn hr))
theorem LV_st2 {ad : Nat → Nat} {ls' : Array Slot} {nL i : Nat} {lv : Lv} {x : Value} (h2 : n2 lv i = true) (h3 : lk lv (i + 1) = none) (h : lv_has ls' nL ((i, cv ad x) :: (dd ad lv).filter (fun q => !(q.1 == i) && (!(q.1 == i + 1) && !(q.1 + 1 == i && q.2.category == 2))))) : LV ad ls' nL ((i, x) :: lv) := by
  refine ⟨h.1, h.2.1, fun j v q => ?_⟩
  unfold lk at q
  cases e : Nat.beq i j with
  | true =>
    rw [show Nat.beq (i, x).1 j = true from e] at q
    cases q
    rw [← Nat.eq_of_beq_eq_true e]
    exact h.2.2 (i, cv ad x) List.mem_cons_self
  | false =>
    rw [show Nat.beq (i, x).1 j = false from e] at q
    have hne : ¬ j = i := fun z => by rw [z, Nat.beq_refl] at e; cases e
    have hne2 : ¬ j = i + 1 := fun z => by rw [z] at q; cases (show lk lv (i + 1) = some v from q).symm.trans h3
    refine h.2.2 (j, cv ad v) (List.mem_cons_of_mem _ (List.mem_filter.mpr ⟨dd_mem q, ?_⟩))
    rw [Bool.and_eq_true, Bool.and_eq_true]
    refine ⟨by simp [hne], by simp [hne2], ?_⟩
    by_cases h3 : j + 1 = i
    · subst h3
      have h4 : (match lk lv j with | some v => !(v.category == 2) | none => true) = true := h2
      rw [show lk lv j = some v from q] at h4
      simp only [cv_cat]
      have h5 : (!(v.category == 2)) = true := h4
      simp at h5 ⊢
      exact h5
    · simp [h3]
theorem ax_lstore_n {k : Fin 4} {i : Nat} {x : Int64} (hd : decode M.2.1 pc = .ok (.lstore_n k, 1)) (hi : (k : Nat) = i) (h1 : i + 1 < M.2.2.1) (h2 : n2 lv i = true) (h3 : lk lv (i + 1) = none) (kk : AX X M d mc ms cu su (pc + 1) ((i, .long x) :: lv) st Z G L Q) : AX X M d mc ms cu su pc lv (.long x :: st) Z G L Q := by
  intro p l e R s m args below meth c H locs ls dC dI tc ad A N0 ad0 Qr hC hW hl hs hv hg hn hr
  exact lv_lstore_n hC.1 hC.2.1 hd hi (dd_has hv) h1 rfl (fun ls' h9 => (kk p l e R s m args below meth c H locs ls' dC dI tc ad A N0 ad0 Qr hC hW (okL_cons hl hs.1) hs.2 (LV_st2 h2 h3 h9) hg hn hr))
theorem ax_lstore  {i : Nat} {x : Int64} (hd : decode M.2.1 pc = .ok (.lstore i, 2))  (h1 : i + 1 < M.2.2.1) (h2 : n2 lv i = true) (h3 : lk lv (i + 1) = none) (kk : AX X M d mc ms cu su (pc + 2) ((i, .long x) :: lv) st Z G L Q) : AX X M d mc ms cu su pc lv (.long x :: st) Z G L Q := by
  intro p l e R s m args below meth c H locs ls dC dI tc ad A N0 ad0 Qr hC hW hl hs hv hg hn hr
  exact lv_lstore hC.1 hC.2.1 hd  (dd_has hv) h1 rfl (fun ls' h9 => (kk p l e R s m args below meth c H locs ls' dC dI tc ad A N0 ad0 Qr hC hW (okL_cons hl hs.1) hs.2 (LV_st2 h2 h3 h9) hg hn hr))
theorem dd_ix {ad : Nat → Nat} {lv : Lv} {j : Nat} {v : Value} (h : lk lv j = some v) : ∃ k : Nat, (dd ad lv)[k]? = some (j, cv ad v) := List.getElem?_of_mem (dd_mem h)
theorem ax_iinc {i : Nat} {n : Int} {x v : Int32} (hd : decode M.2.1 pc = .ok (.iinc i n, 3)) (h0 : lk lv i = some (.int x)) (hx : x + Int32.ofInt n = v) (h1 : i < M.2.2.1) (h2 : n2 lv i = true) (kk : AX X M d mc ms cu su (pc + 3) ((i, .int v) :: lv) st Z G L Q) : AX X M d mc ms cu su pc lv st Z G L Q := by
  intro p l e R s m args below meth c H locs ls dC dI tc ad A N0 ad0 Qr hC hW hl hs hv hg hn hr
  obtain ⟨k, hk⟩ := dd_ix (ad := ad) h0
  exact lv_iinc hC.1 hC.2.1 hd (dd_has hv) hk hx h1 rfl (fun ls' h9 => (kk p l e R s m args below meth c H locs ls' dC dI tc ad A N0 ad0 Qr hC hW (okL_cons hl trivial) hs (LV_st1 (x := .int v) h2 h9) hg hn hr))
theorem ax_lv (l2 : Lv) (h : subl lv l2) (k : AX X M d mc ms cu su pc l2 st Z G L Q) : AX X M d mc ms cu su pc lv st Z G L Q := by
  intro p l e R s m args below meth c H locs ls dC dI tc ad A N0 ad0 Qr hC hW hl hs hv hg hn hr
  exact (k p l e R s m args below meth c H locs ls dC dI tc ad A N0 ad0 Qr hC hW (fun j v q => hl j v (subl_at h j v q)) hs ⟨hv.1, hv.2.1, fun j v q => hv.2.2 j v (subl_at h j v q)⟩ hg hn hr)
theorem ax_iadd {x y : Int32} (hd : decode M.2.1 pc = .ok (.iadd, 1))  (k : AX X M d mc ms cu su (pc + 1) lv (.int (x + y) :: st) Z G L Q) : AX X M d mc ms cu su pc lv (.int y :: .int x :: st) Z G L Q := by
  intro p l e R s m args below meth c H locs ls dC dI tc ad A N0 ad0 Qr hC hW hl hs hv hg hn hr
  exact lv_iadd hC.1 hC.2.1 hd  (k p l e R s m args below meth c H locs ls dC dI tc ad A N0 ad0 Qr hC hW hl ⟨trivial, hs.2.2⟩ hv hg hn hr)
theorem ax_isub {x y : Int32} (hd : decode M.2.1 pc = .ok (.isub, 1))  (k : AX X M d mc ms cu su (pc + 1) lv (.int (x - y) :: st) Z G L Q) : AX X M d mc ms cu su pc lv (.int y :: .int x :: st) Z G L Q := by
  intro p l e R s m args below meth c H locs ls dC dI tc ad A N0 ad0 Qr hC hW hl hs hv hg hn hr
  exact lv_isub hC.1 hC.2.1 hd  (k p l e R s m args below meth c H locs ls dC dI tc ad A N0 ad0 Qr hC hW hl ⟨trivial, hs.2.2⟩ hv hg hn hr)
theorem ax_imul {x y : Int32} (hd : decode M.2.1 pc = .ok (.imul, 1))  (k : AX X M d mc ms cu su (pc + 1) lv (.int (x * y) :: st) Z G L Q) : AX X M d mc ms cu su pc lv (.int y :: .int x :: st) Z G L Q := by
  intro p l e R s m args below meth c H locs ls dC dI tc ad A N0 ad0 Qr hC hW hl hs hv hg hn hr
  exact lv_imul hC.1 hC.2.1 hd  (k p l e R s m args below meth c H locs ls dC dI tc ad A N0 ad0 Qr hC hW hl ⟨trivial, hs.2.2⟩ hv hg hn hr)
theorem ax_iand {x y : Int32} (hd : decode M.2.1 pc = .ok (.iand, 1))  (k : AX X M d mc ms cu su (pc + 1) lv (.int (x &&& y) :: st) Z G L Q) : AX X M d mc ms cu su pc lv (.int y :: .int x :: st) Z G L Q := by
  intro p l e R s m args below meth c H locs ls dC dI tc ad A N0 ad0 Qr hC hW hl hs hv hg hn hr
  exact lv_iand hC.1 hC.2.1 hd  (k p l e R s m args below meth c H locs ls dC dI tc ad A N0 ad0 Qr hC hW hl ⟨trivial, hs.2.2⟩ hv hg hn hr)
theorem ax_ior {x y : Int32} (hd : decode M.2.1 pc = .ok (.ior, 1))  (k : AX X M d mc ms cu su (pc + 1) lv (.int (x ||| y) :: st) Z G L Q) : AX X M d mc ms cu su pc lv (.int y :: .int x :: st) Z G L Q := by
  intro p l e R s m args below meth c H locs ls dC dI tc ad A N0 ad0 Qr hC hW hl hs hv hg hn hr
  exact lv_ior hC.1 hC.2.1 hd  (k p l e R s m args below meth c H locs ls dC dI tc ad A N0 ad0 Qr hC hW hl ⟨trivial, hs.2.2⟩ hv hg hn hr)
theorem ax_ixor {x y : Int32} (hd : decode M.2.1 pc = .ok (.ixor, 1))  (k : AX X M d mc ms cu su (pc + 1) lv (.int (x ^^^ y) :: st) Z G L Q) : AX X M d mc ms cu su pc lv (.int y :: .int x :: st) Z G L Q := by
  intro p l e R s m args below meth c H locs ls dC dI tc ad A N0 ad0 Qr hC hW hl hs hv hg hn hr
  exact lv_ixor hC.1 hC.2.1 hd  (k p l e R s m args below meth c H locs ls dC dI tc ad A N0 ad0 Qr hC hW hl ⟨trivial, hs.2.2⟩ hv hg hn hr)
theorem ax_ishl {x y : Int32} (hd : decode M.2.1 pc = .ok (.ishl, 1))  (k : AX X M d mc ms cu su (pc + 1) lv (.int (x <<< (y &&& 31)) :: st) Z G L Q) : AX X M d mc ms cu su pc lv (.int y :: .int x :: st) Z G L Q := by
  intro p l e R s m args below meth c H locs ls dC dI tc ad A N0 ad0 Qr hC hW hl hs hv hg hn hr
  exact lv_ishl hC.1 hC.2.1 hd  (k p l e R s m args below meth c H locs ls dC dI tc ad A N0 ad0 Qr hC hW hl ⟨trivial, hs.2.2⟩ hv hg hn hr)
theorem ax_ishr {x y : Int32} (hd : decode M.2.1 pc = .ok (.ishr, 1))  (k : AX X M d mc ms cu su (pc + 1) lv (.int (x >>> (y &&& 31)) :: st) Z G L Q) : AX X M d mc ms cu su pc lv (.int y :: .int x :: st) Z G L Q := by
  intro p l e R s m args below meth c H locs ls dC dI tc ad A N0 ad0 Qr hC hW hl hs hv hg hn hr
  exact lv_ishr hC.1 hC.2.1 hd  (k p l e R s m args below meth c H locs ls dC dI tc ad A N0 ad0 Qr hC hW hl ⟨trivial, hs.2.2⟩ hv hg hn hr)
theorem ax_idiv {x y : Int32} (hd : decode M.2.1 pc = .ok (.idiv, 1)) (hne : ¬ y = 0) (k : AX X M d mc ms cu su (pc + 1) lv (.int (x / y) :: st) Z G L Q) : AX X M d mc ms cu su pc lv (.int y :: .int x :: st) Z G L Q := by
  intro p l e R s m args below meth c H locs ls dC dI tc ad A N0 ad0 Qr hC hW hl hs hv hg hn hr
  exact lv_idiv hC.1 hC.2.1 hd hne (k p l e R s m args below meth c H locs ls dC dI tc ad A N0 ad0 Qr hC hW hl ⟨trivial, hs.2.2⟩ hv hg hn hr)
theorem ax_irem {x y : Int32} (hd : decode M.2.1 pc = .ok (.irem, 1)) (hne : ¬ y = 0) (k : AX X M d mc ms cu su (pc + 1) lv (.int (x - x / y * y) :: st) Z G L Q) : AX X M d mc ms cu su pc lv (.int y :: .int x :: st) Z G L Q := by
  intro p l e R s m args below meth c H locs ls dC dI tc ad A N0 ad0 Qr hC hW hl hs hv hg hn hr
  exact lv_irem hC.1 hC.2.1 hd hne (k p l e R s m args below meth c H locs ls dC dI tc ad A N0 ad0 Qr hC hW hl ⟨trivial, hs.2.2⟩ hv hg hn hr)
theorem ax_ladd {x y : Int64} (hd : decode M.2.1 pc = .ok (.ladd, 1))  (k : AX X M d mc ms cu su (pc + 1) lv (.long (x + y) :: st) Z G L Q) : AX X M d mc ms cu su pc lv (.long y :: .long x :: st) Z G L Q := by
  intro p l e R s m args below meth c H locs ls dC dI tc ad A N0 ad0 Qr hC hW hl hs hv hg hn hr
  exact lv_ladd hC.1 hC.2.1 hd  (k p l e R s m args below meth c H locs ls dC dI tc ad A N0 ad0 Qr hC hW hl ⟨trivial, hs.2.2⟩ hv hg hn hr)
theorem ax_lsub {x y : Int64} (hd : decode M.2.1 pc = .ok (.lsub, 1))  (k : AX X M d mc ms cu su (pc + 1) lv (.long (x - y) :: st) Z G L Q) : AX X M d mc ms cu su pc lv (.long y :: .long x :: st) Z G L Q := by
  intro p l e R s m args below meth c H locs ls dC dI tc ad A N0 ad0 Qr hC hW hl hs hv hg hn hr
  exact lv_lsub hC.1 hC.2.1 hd  (k p l e R s m args below meth c H locs ls dC dI tc ad A N0 ad0 Qr hC hW hl ⟨trivial, hs.2.2⟩ hv hg hn hr)
theorem ax_land {x y : Int64} (hd : decode M.2.1 pc = .ok (.land, 1))  (k : AX X M d mc ms cu su (pc + 1) lv (.long (x &&& y) :: st) Z G L Q) : AX X M d mc ms cu su pc lv (.long y :: .long x :: st) Z G L Q := by
  intro p l e R s m args below meth c H locs ls dC dI tc ad A N0 ad0 Qr hC hW hl hs hv hg hn hr
  exact lv_land hC.1 hC.2.1 hd  (k p l e R s m args below meth c H locs ls dC dI tc ad A N0 ad0 Qr hC hW hl ⟨trivial, hs.2.2⟩ hv hg hn hr)
theorem ax_lor {x y : Int64} (hd : decode M.2.1 pc = .ok (.lor, 1))  (k : AX X M d mc ms cu su (pc + 1) lv (.long (x ||| y) :: st) Z G L Q) : AX X M d mc ms cu su pc lv (.long y :: .long x :: st) Z G L Q := by
  intro p l e R s m args below meth c H locs ls dC dI tc ad A N0 ad0 Qr hC hW hl hs hv hg hn hr
  exact lv_lor hC.1 hC.2.1 hd  (k p l e R s m args below meth c H locs ls dC dI tc ad A N0 ad0 Qr hC hW hl ⟨trivial, hs.2.2⟩ hv hg hn hr)
theorem ax_ldiv {x y : Int64} (hd : decode M.2.1 pc = .ok (.ldiv, 1)) (hne : ¬ y = 0) (k : AX X M d mc ms cu su (pc + 1) lv (.long (x / y) :: st) Z G L Q) : AX X M d mc ms cu su pc lv (.long y :: .long x :: st) Z G L Q := by
  intro p l e R s m args below meth c H locs ls dC dI tc ad A N0 ad0 Qr hC hW hl hs hv hg hn hr
  exact lv_ldiv hC.1 hC.2.1 hd hne (k p l e R s m args below meth c H locs ls dC dI tc ad A N0 ad0 Qr hC hW hl ⟨trivial, hs.2.2⟩ hv hg hn hr)
theorem ax_lrem {x y : Int64} (hd : decode M.2.1 pc = .ok (.lrem, 1)) (hne : ¬ y = 0) (k : AX X M d mc ms cu su (pc + 1) lv (.long (x - x / y * y) :: st) Z G L Q) : AX X M d mc ms cu su pc lv (.long y :: .long x :: st) Z G L Q := by
  intro p l e R s m args below meth c H locs ls dC dI tc ad A N0 ad0 Qr hC hW hl hs hv hg hn hr
  exact lv_lrem hC.1 hC.2.1 hd hne (k p l e R s m args below meth c H locs ls dC dI tc ad A N0 ad0 Qr hC hW hl ⟨trivial, hs.2.2⟩ hv hg hn hr)
theorem ax_lcmp {x y : Int64} (hd : decode M.2.1 pc = .ok (.lcmp, 1)) (k : AX X M d mc ms cu su (pc + 1) lv (.int (lg_cmp x y) :: st) Z G L Q) : AX X M d mc ms cu su pc lv (.long y :: .long x :: st) Z G L Q := by
  intro p l e R s m args below meth c H locs ls dC dI tc ad A N0 ad0 Qr hC hW hl hs hv hg hn hr
  exact W.lcmp hC.1 hC.2.1 hd (k p l e R s m args below meth c H locs ls dC dI tc ad A N0 ad0 Qr hC hW hl ⟨trivial, hs.2.2⟩ hv hg hn hr)
theorem ax_iushr {x y v : Int32} (hd : decode M.2.1 pc = .ok (.iushr, 1)) (h1 : (x.toUInt32 >>> (y.toUInt32 &&& Int32.toUInt32 31)).toInt32 = v) (k : AX X M d mc ms cu su (pc + 1) lv (.int v :: st) Z G L Q) : AX X M d mc ms cu su pc lv (.int y :: .int x :: st) Z G L Q := by
  intro p l e R s m args below meth c H locs ls dC dI tc ad A N0 ad0 Qr hC hW hl hs hv hg hn hr
  exact lv_iushr hC.1 hC.2.1 hd h1 (k p l e R s m args below meth c H locs ls dC dI tc ad A N0 ad0 Qr hC hW hl ⟨trivial, hs.2.2⟩ hv hg hn hr)
theorem ax_lshl {x v : Int64} {y : Int32} (hd : decode M.2.1 pc = .ok (.lshl, 1)) (h1 : x <<< (y.toInt64 &&& 63) = v) (k : AX X M d mc ms cu su (pc + 1) lv (.long v :: st) Z G L Q) : AX X M d mc ms cu su pc lv (.int y :: .long x :: st) Z G L Q := by
  intro p l e R s m args below meth c H locs ls dC dI tc ad A N0 ad0 Qr hC hW hl hs hv hg hn hr
  exact lv_lshl hC.1 hC.2.1 hd h1 (k p l e R s m args below meth c H locs ls dC dI tc ad A N0 ad0 Qr hC hW hl ⟨trivial, hs.2.2⟩ hv hg hn hr)
theorem ax_ineg {x : Int32} (hd : decode M.2.1 pc = .ok (.ineg, 1)) (k : AX X M d mc ms cu su (pc + 1) lv (.int (-x) :: st) Z G L Q) : AX X M d mc ms cu su pc lv (.int x :: st) Z G L Q := by
  intro p l e R s m args below meth c H locs ls dC dI tc ad A N0 ad0 Qr hC hW hl hs hv hg hn hr
  exact lv_ineg hC.1 hC.2.1 hd (k p l e R s m args below meth c H locs ls dC dI tc ad A N0 ad0 Qr hC hW hl ⟨trivial, hs.2⟩ hv hg hn hr)
theorem ax_i2l {x : Int32} (hd : decode M.2.1 pc = .ok (.i2l, 1)) (k : AX X M d mc ms cu su (pc + 1) lv (.long (x.toInt64) :: st) Z G L Q) : AX X M d mc ms cu su pc lv (.int x :: st) Z G L Q := by
  intro p l e R s m args below meth c H locs ls dC dI tc ad A N0 ad0 Qr hC hW hl hs hv hg hn hr
  exact lv_i2l hC.1 hC.2.1 hd rfl (k p l e R s m args below meth c H locs ls dC dI tc ad A N0 ad0 Qr hC hW hl ⟨trivial, hs.2⟩ hv hg hn hr)
theorem ax_l2i {x : Int64} (hd : decode M.2.1 pc = .ok (.l2i, 1)) (k : AX X M d mc ms cu su (pc + 1) lv (.int (x.toInt32) :: st) Z G L Q) : AX X M d mc ms cu su pc lv (.long x :: st) Z G L Q := by
  intro p l e R s m args below meth c H locs ls dC dI tc ad A N0 ad0 Qr hC hW hl hs hv hg hn hr
  exact lv_l2i hC.1 hC.2.1 hd rfl (k p l e R s m args below meth c H locs ls dC dI tc ad A N0 ad0 Qr hC hW hl ⟨trivial, hs.2⟩ hv hg hn hr)
theorem ax_i2b {x : Int32} (hd : decode M.2.1 pc = .ok (.i2b, 1)) (k : AX X M d mc ms cu su (pc + 1) lv (.int (x.toInt8.toInt32) :: st) Z G L Q) : AX X M d mc ms cu su pc lv (.int x :: st) Z G L Q := by
  intro p l e R s m args below meth c H locs ls dC dI tc ad A N0 ad0 Qr hC hW hl hs hv hg hn hr
  exact lv_i2b hC.1 hC.2.1 hd rfl (k p l e R s m args below meth c H locs ls dC dI tc ad A N0 ad0 Qr hC hW hl ⟨trivial, hs.2⟩ hv hg hn hr)
theorem ax_i2s {x : Int32} (hd : decode M.2.1 pc = .ok (.i2s, 1)) (k : AX X M d mc ms cu su (pc + 1) lv (.int (x.toInt16.toInt32) :: st) Z G L Q) : AX X M d mc ms cu su pc lv (.int x :: st) Z G L Q := by
  intro p l e R s m args below meth c H locs ls dC dI tc ad A N0 ad0 Qr hC hW hl hs hv hg hn hr
  exact lv_i2s hC.1 hC.2.1 hd rfl (k p l e R s m args below meth c H locs ls dC dI tc ad A N0 ad0 Qr hC hW hl ⟨trivial, hs.2⟩ hv hg hn hr)
theorem ax_i2c {x : Int32} (hd : decode M.2.1 pc = .ok (.i2c, 1)) (k : AX X M d mc ms cu su (pc + 1) lv (.int ((x.toUInt32 % 65536).toInt32) :: st) Z G L Q) : AX X M d mc ms cu su pc lv (.int x :: st) Z G L Q := by
  intro p l e R s m args below meth c H locs ls dC dI tc ad A N0 ad0 Qr hC hW hl hs hv hg hn hr
  exact lv_i2c hC.1 hC.2.1 hd rfl (k p l e R s m args below meth c H locs ls dC dI tc ad A N0 ad0 Qr hC hW hl ⟨trivial, hs.2⟩ hv hg hn hr)
theorem ax_dup {v : Value} (hd : decode M.2.1 pc = .ok (.dup, 1)) (h1 : v.category = 1) (k : AX X M d mc ms cu su (pc + 1) lv (v :: v :: st) Z G L Q) : AX X M d mc ms cu su pc lv (v :: st) Z G L Q := by
  intro p l e R s m args below meth c H locs ls dC dI tc ad A N0 ad0 Qr hC hW hl hs hv hg hn hr
  exact lv_dup hC.1 hC.2.1 hd (by rw [cv_cat]; exact h1) (k p l e R s m args below meth c H locs ls dC dI tc ad A N0 ad0 Qr hC hW hl ⟨hs.1, hs⟩ hv hg hn hr)
theorem ax_pop {v : Value} (hd : decode M.2.1 pc = .ok (.pop, 1)) (h1 : v.category = 1) (k : AX X M d mc ms cu su (pc + 1) lv st Z G L Q) : AX X M d mc ms cu su pc lv (v :: st) Z G L Q := by
  intro p l e R s m args below meth c H locs ls dC dI tc ad A N0 ad0 Qr hC hW hl hs hv hg hn hr
  exact lv_pop hC.1 hC.2.1 hd (by rw [cv_cat]; exact h1) (k p l e R s m args below meth c H locs ls dC dI tc ad A N0 ad0 Qr hC hW hl hs.2 hv hg hn hr)
theorem ax_dup_x1 {v w : Value} (hd : decode M.2.1 pc = .ok (.dup_x1, 1)) (h1 : v.category = 1) (h2 : w.category = 1) (k : AX X M d mc ms cu su (pc + 1) lv (v :: w :: v :: st) Z G L Q) : AX X M d mc ms cu su pc lv (v :: w :: st) Z G L Q := by
  intro p l e R s m args below meth c H locs ls dC dI tc ad A N0 ad0 Qr hC hW hl hs hv hg hn hr
  exact lv_dup_x1 hC.1 hC.2.1 hd (by rw [cv_cat]; exact h1) (by rw [cv_cat]; exact h2) (k p l e R s m args below meth c H locs ls dC dI tc ad A N0 ad0 Qr hC hW hl ⟨hs.1, hs.2.1, hs.1, hs.2.2⟩ hv hg hn hr)
theorem ax_if_eq {x : Int32} {off : Int} {tgt : Nat} (hd : decode M.2.1 pc = .ok (.ifCond .eq off, 3)) (ht : (pc : Int) + off = (tgt : Int)) (kt : x = 0 → AX X M d mc ms cu su tgt lv st Z G L Q) (kf : ¬ x = 0 → AX X M d mc ms cu su (pc + 3) lv st Z G L Q) : AX X M d mc ms cu su pc lv (.int x :: st) Z G L Q := by
  intro p l e R s m args below meth c H locs ls dC dI tc ad A N0 ad0 Qr hC hW hl hs hv hg hn hr
  exact lv_if_eq hC.1 hC.2.1 hd ht (fun q => (kt q p l e R s m args below meth c H locs ls dC dI tc ad A N0 ad0 Qr hC hW hl hs.2 hv hg hn hr)) (fun q => (kf q p l e R s m args below meth c H locs ls dC dI tc ad A N0 ad0 Qr hC hW hl hs.2 hv hg hn hr))
theorem ax_icmp_eq {x y : Int32} {off : Int} {tgt : Nat} (hd : decode M.2.1 pc = .ok (.if_icmp .eq off, 3)) (ht : (pc : Int) + off = (tgt : Int)) (kt : x = y → AX X M d mc ms cu su tgt lv st Z G L Q) (kf : ¬ x = y → AX X M d mc ms cu su (pc + 3) lv st Z G L Q) : AX X M d mc ms cu su pc lv (.int y :: .int x :: st) Z G L Q := by
  intro p l e R s m args below meth c H locs ls dC dI tc ad A N0 ad0 Qr hC hW hl hs hv hg hn hr
  exact lv_icmp_eq hC.1 hC.2.1 hd ht (fun q => (kt q p l e R s m args below meth c H locs ls dC dI tc ad A N0 ad0 Qr hC hW hl hs.2.2 hv hg hn hr)) (fun q => (kf q p l e R s m args below meth c H locs ls dC dI tc ad A N0 ad0 Qr hC hW hl hs.2.2 hv hg hn hr))
theorem ax_if_ne {x : Int32} {off : Int} {tgt : Nat} (hd : decode M.2.1 pc = .ok (.ifCond .ne off, 3)) (ht : (pc : Int) + off = (tgt : Int)) (kt : ¬ x = 0 → AX X M d mc ms cu su tgt lv st Z G L Q) (kf : x = 0 → AX X M d mc ms cu su (pc + 3) lv st Z G L Q) : AX X M d mc ms cu su pc lv (.int x :: st) Z G L Q := by
  intro p l e R s m args below meth c H locs ls dC dI tc ad A N0 ad0 Qr hC hW hl hs hv hg hn hr
  exact lv_if_ne hC.1 hC.2.1 hd ht (fun q => (kt q p l e R s m args below meth c H locs ls dC dI tc ad A N0 ad0 Qr hC hW hl hs.2 hv hg hn hr)) (fun q => (kf q p l e R s m args below meth c H locs ls dC dI tc ad A N0 ad0 Qr hC hW hl hs.2 hv hg hn hr))
theorem ax_icmp_ne {x y : Int32} {off : Int} {tgt : Nat} (hd : decode M.2.1 pc = .ok (.if_icmp .ne off, 3)) (ht : (pc : Int) + off = (tgt : Int)) (kt : ¬ x = y → AX X M d mc ms cu su tgt lv st Z G L Q) (kf : x = y → AX X M d mc ms cu su (pc + 3) lv st Z G L Q) : AX X M d mc ms cu su pc lv (.int y :: .int x :: st) Z G L Q := by
  intro p l e R s m args below meth c H locs ls dC dI tc ad A N0 ad0 Qr hC hW hl hs hv hg hn hr
  exact lv_icmp_ne hC.1 hC.2.1 hd ht (fun q => (kt q p l e R s m args below meth c H locs ls dC dI tc ad A N0 ad0 Qr hC hW hl hs.2.2 hv hg hn hr)) (fun q => (kf q p l e R s m args below meth c H locs ls dC dI tc ad A N0 ad0 Qr hC hW hl hs.2.2 hv hg hn hr))
theorem ax_if_lt {x : Int32} {off : Int} {tgt : Nat} (hd : decode M.2.1 pc = .ok (.ifCond .lt off, 3)) (ht : (pc : Int) + off = (tgt : Int)) (kt : x < 0 → AX X M d mc ms cu su tgt lv st Z G L Q) (kf : ¬ x < 0 → AX X M d mc ms cu su (pc + 3) lv st Z G L Q) : AX X M d mc ms cu su pc lv (.int x :: st) Z G L Q := by
  intro p l e R s m args below meth c H locs ls dC dI tc ad A N0 ad0 Qr hC hW hl hs hv hg hn hr
  exact lv_if_lt hC.1 hC.2.1 hd ht (fun q => (kt q p l e R s m args below meth c H locs ls dC dI tc ad A N0 ad0 Qr hC hW hl hs.2 hv hg hn hr)) (fun q => (kf q p l e R s m args below meth c H locs ls dC dI tc ad A N0 ad0 Qr hC hW hl hs.2 hv hg hn hr))
theorem ax_icmp_lt {x y : Int32} {off : Int} {tgt : Nat} (hd : decode M.2.1 pc = .ok (.if_icmp .lt off, 3)) (ht : (pc : Int) + off = (tgt : Int)) (kt : x < y → AX X M d mc ms cu su tgt lv st Z G L Q) (kf : ¬ x < y → AX X M d mc ms cu su (pc + 3) lv st Z G L Q) : AX X M d mc ms cu su pc lv (.int y :: .int x :: st) Z G L Q := by
  intro p l e R s m args below meth c H locs ls dC dI tc ad A N0 ad0 Qr hC hW hl hs hv hg hn hr
  exact lv_icmp_lt hC.1 hC.2.1 hd ht (fun q => (kt q p l e R s m args below meth c H locs ls dC dI tc ad A N0 ad0 Qr hC hW hl hs.2.2 hv hg hn hr)) (fun q => (kf q p l e R s m args below meth c H locs ls dC dI tc ad A N0 ad0 Qr hC hW hl hs.2.2 hv hg hn hr))
theorem ax_if_ge {x : Int32} {off : Int} {tgt : Nat} (hd : decode M.2.1 pc = .ok (.ifCond .ge off, 3)) (ht : (pc : Int) + off = (tgt : Int)) (kt : 0 ≤ x → AX X M d mc ms cu su tgt lv st Z G L Q) (kf : ¬ 0 ≤ x → AX X M d mc ms cu su (pc + 3) lv st Z G L Q) : AX X M d mc ms cu su pc lv (.int x :: st) Z G L Q := by
  intro p l e R s m args below meth c H locs ls dC dI tc ad A N0 ad0 Qr hC hW hl hs hv hg hn hr
  exact lv_if_ge hC.1 hC.2.1 hd ht (fun q => (kt q p l e R s m args below meth c H locs ls dC dI tc ad A N0 ad0 Qr hC hW hl hs.2 hv hg hn hr)) (fun q => (kf q p l e R s m args below meth c H locs ls dC dI tc ad A N0 ad0 Qr hC hW hl hs.2 hv hg hn hr))
theorem ax_icmp_ge {x y : Int32} {off : Int} {tgt : Nat} (hd : decode M.2.1 pc = .ok (.if_icmp .ge off, 3)) (ht : (pc : Int) + off = (tgt : Int)) (kt : y ≤ x → AX X M d mc ms cu su tgt lv st Z G L Q) (kf : ¬ y ≤ x → AX X M d mc ms cu su (pc + 3) lv st Z G L Q) : AX X M d mc ms cu su pc lv (.int y :: .int x :: st) Z G L Q := by
  intro p l e R s m args below meth c H locs ls dC dI tc ad A N0 ad0 Qr hC hW hl hs hv hg hn hr
  exact lv_icmp_ge hC.1 hC.2.1 hd ht (fun q => (kt q p l e R s m args below meth c H locs ls dC dI tc ad A N0 ad0 Qr hC hW hl hs.2.2 hv hg hn hr)) (fun q => (kf q p l e R s m args below meth c H locs ls dC dI tc ad A N0 ad0 Qr hC hW hl hs.2.2 hv hg hn hr))
theorem ax_if_gt {x : Int32} {off : Int} {tgt : Nat} (hd : decode M.2.1 pc = .ok (.ifCond .gt off, 3)) (ht : (pc : Int) + off = (tgt : Int)) (kt : 0 < x → AX X M d mc ms cu su tgt lv st Z G L Q) (kf : ¬ 0 < x → AX X M d mc ms cu su (pc + 3) lv st Z G L Q) : AX X M d mc ms cu su pc lv (.int x :: st) Z G L Q := by
  intro p l e R s m args below meth c H locs ls dC dI tc ad A N0 ad0 Qr hC hW hl hs hv hg hn hr
  exact lv_if_gt hC.1 hC.2.1 hd ht (fun q => (kt q p l e R s m args below meth c H locs ls dC dI tc ad A N0 ad0 Qr hC hW hl hs.2 hv hg hn hr)) (fun q => (kf q p l e R s m args below meth c H locs ls dC dI tc ad A N0 ad0 Qr hC hW hl hs.2 hv hg hn hr))
theorem ax_icmp_gt {x y : Int32} {off : Int} {tgt : Nat} (hd : decode M.2.1 pc = .ok (.if_icmp .gt off, 3)) (ht : (pc : Int) + off = (tgt : Int)) (kt : y < x → AX X M d mc ms cu su tgt lv st Z G L Q) (kf : ¬ y < x → AX X M d mc ms cu su (pc + 3) lv st Z G L Q) : AX X M d mc ms cu su pc lv (.int y :: .int x :: st) Z G L Q := by
  intro p l e R s m args below meth c H locs ls dC dI tc ad A N0 ad0 Qr hC hW hl hs hv hg hn hr
  exact lv_icmp_gt hC.1 hC.2.1 hd ht (fun q => (kt q p l e R s m args below meth c H locs ls dC dI tc ad A N0 ad0 Qr hC hW hl hs.2.2 hv hg hn hr)) (fun q => (kf q p l e R s m args below meth c H locs ls dC dI tc ad A N0 ad0 Qr hC hW hl hs.2.2 hv hg hn hr))
theorem ax_if_le {x : Int32} {off : Int} {tgt : Nat} (hd : decode M.2.1 pc = .ok (.ifCond .le off, 3)) (ht : (pc : Int) + off = (tgt : Int)) (kt : x ≤ 0 → AX X M d mc ms cu su tgt lv st Z G L Q) (kf : ¬ x ≤ 0 → AX X M d mc ms cu su (pc + 3) lv st Z G L Q) : AX X M d mc ms cu su pc lv (.int x :: st) Z G L Q := by
  intro p l e R s m args below meth c H locs ls dC dI tc ad A N0 ad0 Qr hC hW hl hs hv hg hn hr
  exact lv_if_le hC.1 hC.2.1 hd ht (fun q => (kt q p l e R s m args below meth c H locs ls dC dI tc ad A N0 ad0 Qr hC hW hl hs.2 hv hg hn hr)) (fun q => (kf q p l e R s m args below meth c H locs ls dC dI tc ad A N0 ad0 Qr hC hW hl hs.2 hv hg hn hr))
theorem ax_icmp_le {x y : Int32} {off : Int} {tgt : Nat} (hd : decode M.2.1 pc = .ok (.if_icmp .le off, 3)) (ht : (pc : Int) + off = (tgt : Int)) (kt : x ≤ y → AX X M d mc ms cu su tgt lv st Z G L Q) (kf : ¬ x ≤ y → AX X M d mc ms cu su (pc + 3) lv st Z G L Q) : AX X M d mc ms cu su pc lv (.int y :: .int x :: st) Z G L Q := by
  intro p l e R s m args below meth c H locs ls dC dI tc ad A N0 ad0 Qr hC hW hl hs hv hg hn hr
  exact lv_icmp_le hC.1 hC.2.1 hd ht (fun q => (kt q p l e R s m args below meth c H locs ls dC dI tc ad A N0 ad0 Qr hC hW hl hs.2.2 hv hg hn hr)) (fun q => (kf q p l e R s m args below meth c H locs ls dC dI tc ad A N0 ad0 Qr hC hW hl hs.2.2 hv hg hn hr))
theorem ax_goto {off : Int} {tgt : Nat} (hd : decode M.2.1 pc = .ok (.goto off, 3)) (ht : (pc : Int) + off = (tgt : Int)) (k : AX X M d mc ms cu su tgt lv st Z G L Q) : AX X M d mc ms cu su pc lv st Z G L Q := by
  intro p l e R s m args below meth c H locs ls dC dI tc ad A N0 ad0 Qr hC hW hl hs hv hg hn hr
  exact lv_goto hC.1 hC.2.1 hd ht (k p l e R s m args below meth c H locs ls dC dI tc ad A N0 ad0 Qr hC hW hl hs hv hg hn hr)
theorem ax_tout {dflt lo hi : Int} {offs : Array Int} {len : Nat} {x : Int32} {tgt : Nat} (hd : decode M.2.1 pc = .ok (.tableswitch dflt lo hi offs, len)) (h : x.toInt < lo ∨ hi < x.toInt) (ht : (pc : Int) + dflt = (tgt : Int)) (k : AX X M d mc ms cu su tgt lv st Z G L Q) : AX X M d mc ms cu su pc lv (.int x :: st) Z G L Q := by
  intro p l e R s m args below meth c H locs ls dC dI tc ad A N0 ad0 Qr hC hW hl hs hv hg hn hr
  exact lv_tableOut hC.1 hC.2.1 hd h ht (k p l e R s m args below meth c H locs ls dC dI tc ad A N0 ad0 Qr hC hW hl hs.2 hv hg hn hr)
theorem ax_tin {dflt lo hi : Int} {offs : Array Int} {len : Nat} {x : Int32} {off : Int} {tgt : Nat} (hd : decode M.2.1 pc = .ok (.tableswitch dflt lo hi offs, len)) (h1 : ¬ x.toInt < lo) (h2 : ¬ hi < x.toInt) (ho : offs[(x.toInt - lo).toNat]? = some off) (ht : (pc : Int) + off = (tgt : Int)) (k : AX X M d mc ms cu su tgt lv st Z G L Q) : AX X M d mc ms cu su pc lv (.int x :: st) Z G L Q := by
  intro p l e R s m args below meth c H locs ls dC dI tc ad A N0 ad0 Qr hC hW hl hs hv hg hn hr
  exact lv_tableIn hC.1 hC.2.1 hd h1 h2 ho ht (k p l e R s m args below meth c H locs ls dC dI tc ad A N0 ad0 Qr hC hW hl hs.2 hv hg hn hr)
theorem ax_lookup {dflt : Int} {ps : Array (Int × Int)} {len : Nat} {x : Int32} {off : Int} {tgt : Nat} (hd : decode M.2.1 pc = .ok (.lookupswitch dflt ps, len)) (hp : (ps.toList.zip (ps.toList.drop 1)).all (fun (a, next) => a.1 < next.1) = true) (ho : Op.lookupswitch.offset ps.toList dflt x.toInt = off) (ht : (pc : Int) + off = (tgt : Int)) (k : AX X M d mc ms cu su tgt lv st Z G L Q) : AX X M d mc ms cu su pc lv (.int x :: st) Z G L Q := by
  intro p l e R s m args below meth c H locs ls dC dI tc ad A N0 ad0 Qr hC hW hl hs hv hg hn hr
  exact lv_lookup hC.1 hC.2.1 hd hp ho ht (k p l e R s m args below meth c H locs ls dC dI tc ad A N0 ad0 Qr hC hW hl hs.2 hv hg hn hr)
def orf (o : Option Nat) : Value := match o with
  | none => .null
  | some k => .ref k
theorem ax_ifnull {r : Option Nat} {off : Int} {tgt : Nat} (hd : decode M.2.1 pc = .ok (.ifnull off, 3)) (ht : (pc : Int) + off = (tgt : Int)) (kt : r = none → AX X M d mc ms cu su tgt lv st Z G L Q) (kf : ∀ k, r = some k → AX X M d mc ms cu su (pc + 3) lv st Z G L Q) : AX X M d mc ms cu su pc lv (orf r :: st) Z G L Q := by
  intro p l e R s m args below meth c H locs ls dC dI tc ad A N0 ad0 Qr hC hW hl hs hv hg hn hr
  cases r with
  | none => exact lv_ifnullN hC.1 hC.2.1 hd ht (kt rfl p l e R s m args below meth c H locs ls dC dI tc ad A N0 ad0 Qr hC hW hl hs.2 hv hg hn hr)
  | some k => exact lv_ifnull hC.1 hC.2.1 hd (kf k rfl p l e R s m args below meth c H locs ls dC dI tc ad A N0 ad0 Qr hC hW hl hs.2 hv hg hn hr)
theorem ax_ifnonnull {r : Option Nat} {off : Int} {tgt : Nat} (hd : decode M.2.1 pc = .ok (.ifnonnull off, 3)) (ht : (pc : Int) + off = (tgt : Int)) (kt : ∀ k, r = some k → AX X M d mc ms cu su tgt lv st Z G L Q) (kf : r = none → AX X M d mc ms cu su (pc + 3) lv st Z G L Q) : AX X M d mc ms cu su pc lv (orf r :: st) Z G L Q := by
  intro p l e R s m args below meth c H locs ls dC dI tc ad A N0 ad0 Qr hC hW hl hs hv hg hn hr
  cases r with
  | some k => exact lv_ifnonnull hC.1 hC.2.1 hd ht (kt k rfl p l e R s m args below meth c H locs ls dC dI tc ad A N0 ad0 Qr hC hW hl hs.2 hv hg hn hr)
  | none => exact lv_ifnonnullN hC.1 hC.2.1 hd (kf rfl p l e R s m args below meth c H locs ls dC dI tc ad A N0 ad0 Qr hC hW hl hs.2 hv hg hn hr)
theorem ax_iret {v : Int32} {ty : FieldType} (hd : decode M.2.1 pc = .ok (.ireturn, 1)) (h1 : M.2.2.2 = some ty) (h2 : narrow ty (.int v) = .int v) (hc1 : cu ≤ mc) (hc2 : su ≤ ms) (hq : Q (some (.int v)) Z G L) : AX X M d mc ms cu su pc lv [.int v] Z G L Q := by
  intro p l e R s m args below meth c H locs ls dC dI tc ad A N0 ad0 Qr hC hW hl hs hv hg hn hr
  exact W.widen hc1 hc2 (hr.2 (some (.int v)) Z G L ad H locs pc ls hq hW (fun v h => by cases h; exact trivial) hg hn ⟨hd, ty, h1, h2⟩)
theorem ax_lret {v : Int64} (hd : decode M.2.1 pc = .ok (.lreturn, 1)) (h1 : M.2.2.2 = some .long) (hc1 : cu ≤ mc) (hc2 : su ≤ ms) (hq : Q (some (.long v)) Z G L) : AX X M d mc ms cu su pc lv [.long v] Z G L Q := by
  intro p l e R s m args below meth c H locs ls dC dI tc ad A N0 ad0 Qr hC hW hl hs hv hg hn hr
  exact W.widen hc1 hc2 (hr.2 (some (.long v)) Z G L ad H locs pc ls hq hW (fun v h => by cases h; exact trivial) hg hn ⟨hd, h1⟩)
theorem ax_aret {k : Nat} {rt : FieldType} (hd : decode M.2.1 pc = .ok (.areturn, 1)) (h1 : M.2.2.2 = some rt) (h2 : (∃ n, rt = .object n) ∨ ∃ t, rt = .array t) (hc1 : cu ≤ mc) (hc2 : su ≤ ms) (hq : Q (some (.ref k)) Z G L) : AX X M d mc ms cu su pc lv [.ref k] Z G L Q := by
  intro p l e R s m args below meth c H locs ls dC dI tc ad A N0 ad0 Qr hC hW hl hs hv hg hn hr
  exact W.widen hc1 hc2 (hr.2 (some (.ref k)) Z G L ad H locs pc ls hq hW (fun v h => by cases h; exact hs.1) hg hn ⟨hd, rt, h1, h2⟩)
theorem ax_vret (hd : decode M.2.1 pc = .ok (.return_, 1)) (h1 : M.2.2.2 = none) (hc1 : cu ≤ mc) (hc2 : su ≤ ms) (hq : Q none Z G L) : AX X M d mc ms cu su pc lv [] Z G L Q := by
  intro p l e R s m args below meth c H locs ls dC dI tc ad A N0 ad0 Qr hC hW hl hs hv hg hn hr
  exact W.widen hc1 hc2 (hr.2 none Z G L ad H locs pc ls hq hW (fun v h => by cases h) hg hn ⟨hd, h1⟩)
end AXR
