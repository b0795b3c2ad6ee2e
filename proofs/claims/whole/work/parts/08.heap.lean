-- ===== rows of the abstract machine: fields and arrays =====
def isI (ty : FieldType) : Bool := match ty with
  | .int => true
  | .boolean => true
  | .byte => true
  | .short => true
  | .char => true
  | _ => false
def isR (ty : FieldType) : Bool := match ty with
  | .object _ => true
  | .array _ => true
  | _ => false
theorem fv_I {ad : Nat → Nat} {ty : FieldType} {Z : Zt} {G : Gt} {L : Lt} {k i : Nat} (h : isI ty = true) : fv ad ty Z G L k i = .int (G k i) := by cases ty <;> first | rfl | cases h
theorem fv_R {ad : Nat → Nat} {ty : FieldType} {Z : Zt} {G : Gt} {L : Lt} {k i : Nat} (h : isR ty = true) : fv ad ty Z G L k i = va_rf ((Z.2.2 k i).map ad) := by cases ty <;> first | rfl | cases h
theorem orf_cv (ad : Nat → Nat) (o : Option Nat) : cv ad (orf o) = va_rf (o.map ad) := by cases o <;> rfl
/-- a field: own's constant idx names field i of class ci -/
def FL (own : String) (idx ci i : Nat) : Prop := ∃ C T N, CL[ci]? = some (C, T, N) ∧ nF ci = N ∧ i < N ∧ Cond.fieldLink own idx (T i).1 (T i).2.1 (T i).2.2.1 ∈ TB ∧ (∀ w ∈ u_ws C T N, w ∈ TB) ∧ (∀ k, k < N → parseFieldDescriptor (T k).2.2.1 = some (tyF ci k)) ∧ (∀ a, a < N → ∀ b, b < N → a ≠ b → (T a).2.1 ≠ (T b).2.1)
def FLp (ci i : Nat) (fin : Bool) (own : String) : Prop := ∃ C T N, CL[ci]? = some (C, T, N) ∧ (T i).2.2.2 = fin ∧ (T i).1 = own
theorem up2_s {α : Type} {G : Nat → Nat → α} {k i : Nat} {v : α} : up2 G k i v k i = v := by simp [up2]
theorem up2_k {α : Type} {G : Nat → Nat → α} {k i a b : Nat} {v : α} (h : a ≠ k) : up2 G k i v a b = G a b := by simp [up2, h]
theorem up2_i {α : Type} {G : Nat → Nat → α} {k i a b : Nat} {v : α} (h : b ≠ i) : up2 G k i v a b = G a b := by simp [up2, h]
theorem up2_row {α : Type} {G : Nat → Nat → α} {k i a : Nat} {v : α} (h : a ≠ k) : up2 G k i v a = G a := funext fun b => up2_k h
theorem up2_upd {G : Gt} {k i : Nat} {v : Int32} : up2 G k i v k = upd (G k) i v := by funext b; simp [up2, upd]
theorem up2_updL {L : Lt} {k i : Nat} {v : Int64} : up2 L k i v k = vp_updL (L k) i v := by funext b; simp [up2, vp_updL]
theorem up2_up {α : Type} {G : Nat → Nat → α} {k i : Nat} {v : α} : up2 G k i v k = va_up (G k) i v := by funext b; simp [up2, va_up]
theorem cell_cong {tc : FieldType → ClassId} {ad : Nat → Nat} {Z Z' : Zt} {G G' : Gt} {L L' : Lt} {k : Nat} (h1 : Z'.2.1 k = Z.2.1 k) (h2 : Z'.2.2 k = Z.2.2 k) (h3 : G' k = G k) (h4 : L' k = L k) : cellOf tc ad Z' G' L' k = cellOf tc ad Z G L k := by
  unfold cellOf
  rw [h1]
  cases e : Z.2.1 k with
  | none => rfl
  | some x =>
    cases x with
    | inl ci =>
      show Sum.inr (ci, _) = Sum.inr (ci, _)
      refine congrArg (fun z => Sum.inr (ci, z)) (List.map_congr_left fun i _ => ?_)
      unfold fv
      rw [h2, h3, h4]
    | inr q =>
      show Sum.inl (tc q.1, _) = Sum.inl (tc q.1, _)
      unfold av9
      rw [h2, h3, h4]
theorem cw_set {tc : FieldType → ClassId} {ad : Nat → Nat} {Z Z' : Zt} {G G' : Gt} {L L' : Lt} {k : Nat} {e : va_E} (hN : Z'.1 = Z.1) (ho : ∀ j, j ≠ k → cellOf tc ad Z' G' L' j = cellOf tc ad Z G L j) (he : cellOf tc ad Z' G' L' k = e) : (cw tc ad Z G L).set k (ad k, e) = cw tc ad Z' G' L' := by
  unfold cw
  rw [hN]
  apply List.ext_getElem?
  intro j
  rw [List.getElem?_set, List.getElem?_map, List.getElem?_map]
  by_cases hj : k = j
  · subst hj
    rw [if_pos rfl]
    by_cases h : k < Z.1
    · rw [List.getElem?_range h]
      simp [h, he]
    · rw [List.getElem?_eq_none (by simp; omega)]
      simp [h]
  · rw [if_neg hj]
    by_cases h : j < Z.1
    · rw [List.getElem?_range h]
      show some (ad j, _) = some (ad j, _)
      rw [ho j (fun z => hj z.symm)]
    · rw [List.getElem?_eq_none (by simp; omega)]
      rfl
section AXH
variable {X : Option (Nat × (Nat → Int32))} {M : Mt} {d mc ms cu su pc : Nat} {lv : Lv} {st : List Value} {Z : Zt} {G : Gt} {L : Lt} {Q : Qt}
theorem ax_getI {idx ci i k : Nat} (hd : decode M.2.1 pc = .ok (.getfield idx, 3)) (hf : FL M.1.cls idx ci i) (ht : isI (tyF ci i) = true) (hz : Z.2.1 k = some (.inl ci)) (kk : AX X M d mc ms cu su (pc + 3) lv (.int (G k i) :: st) Z G L Q) : AX X M d mc ms cu su pc lv (.ref k :: st) Z G L Q := by
  intro p l e R s m args below meth c H locs ls dC dI tc ad A N0 ad0 Qr hC hW hl hs hv hg hn hr
  obtain ⟨C, T, N, f1, f2, f3, f4, f5, f6, f7⟩ := hf
  obtain ⟨c1, c2, c3, c4, c5, c6, c7⟩ := id hC
  obtain ⟨hK, hP, hD, hS, hA, hSF, hSX, hF⟩ := id hW
  refine va_get (D := (dC, dI)) (ci := ci) (v := .int (G k i)) c1 c2 c6 f5 c5 hK hP k (cw_obj hF hz) f1 i f3 (c6 _ f4) (fun _ h9 => h9) ?_ hd (kk p l e R s m args below meth c H locs ls dC dI tc ad A N0 ad0 Qr hC hW hl ⟨trivial, hs.2⟩ hv hg hn hr)
  rw [f2, List.getElem?_map, List.getElem?_range f3]
  exact congrArg some (fv_I ht)
theorem ax_getO {idx ci i k : Nat} (hd : decode M.2.1 pc = .ok (.getfield idx, 3)) (hf : FL M.1.cls idx ci i) (ht : isR (tyF ci i) = true) (hz : Z.2.1 k = some (.inl ci)) (kk : AX X M d mc ms cu su (pc + 3) lv (orf (Z.2.2 k i) :: st) Z G L Q) : AX X M d mc ms cu su pc lv (.ref k :: st) Z G L Q := by
  intro p l e R s m args below meth c H locs ls dC dI tc ad A N0 ad0 Qr hC hW hl hs hv hg hn hr
  obtain ⟨C, T, N, f1, f2, f3, f4, f5, f6, f7⟩ := hf
  obtain ⟨c1, c2, c3, c4, c5, c6, c7⟩ := id hC
  obtain ⟨hK, hP, hD, hS, hA, hSF, hSX, hF⟩ := id hW
  refine va_get (D := (dC, dI)) (ci := ci) (v := cv ad (orf (Z.2.2 k i))) c1 c2 c6 f5 c5 hK hP k (cw_obj hF hz) f1 i f3 (c6 _ f4) (fun _ h9 => h9) ?_ hd (kk p l e R s m args below meth c H locs ls dC dI tc ad A N0 ad0 Qr hC hW hl ⟨?_, hs.2⟩ hv hg hn hr)
  · rw [f2, List.getElem?_map, List.getElem?_range f3]
    exact congrArg some ((fv_R ht).trans (orf_cv ad _).symm)
  · cases e9 : Z.2.2 k i with
    | none => trivial
    | some j => exact Or.inl (hF.2.2.1 k i j e9)
theorem ax_getR {idx ci i k j : Nat} (hd : decode M.2.1 pc = .ok (.getfield idx, 3)) (hf : FL M.1.cls idx ci i) (ht : isR (tyF ci i) = true) (hz : Z.2.1 k = some (.inl ci)) (hj : Z.2.2 k i = some j) (kk : AX X M d mc ms cu su (pc + 3) lv (.ref j :: st) Z G L Q) : AX X M d mc ms cu su pc lv (.ref k :: st) Z G L Q := ax_getO hd hf ht hz (by rw [hj]; exact kk)
theorem fl_set {ad : Nat → Nat} {Z Z' : Zt} {G G' : Gt} {L L' : Lt} {k ci i : Nat} {v : Value} (ho : ∀ j, j ≠ i → fv ad (tyF ci j) Z' G' L' k j = fv ad (tyF ci j) Z G L k j) (hi : fv ad (tyF ci i) Z' G' L' k i = v) : ((List.range (nF ci)).map (fun i => fv ad (tyF ci i) Z G L k i)).set i v = (List.range (nF ci)).map (fun i => fv ad (tyF ci i) Z' G' L' k i) := by
  apply List.ext_getElem?
  intro j
  rw [List.getElem?_set, List.getElem?_map, List.getElem?_map]
  by_cases hj : i = j
  · subst hj
    rw [if_pos rfl]
    by_cases h : i < nF ci
    · rw [List.getElem?_range h]
      simp [h, hi]
    · rw [List.getElem?_eq_none (by simp; omega)]
      simp [h]
  · rw [if_neg hj]
    by_cases h : j < nF ci
    · rw [List.getElem?_range h]
      exact congrArg some (ho j (fun z => hj z.symm)).symm
    · rw [List.getElem?_eq_none (by simp; omega)]
      rfl
theorem fits_R {ty : FieldType} (h : isR ty = true) (v : Value) (hv : v = .null ∨ ∃ a, v = .ref a) : narrow ty v = v ∧ fits ty v = true := by
  rcases hv with rfl | ⟨a, rfl⟩ <;> cases ty <;> first | exact ⟨rfl, rfl⟩ | cases h
/-- a field of ints is put -/
theorem ax_putI {idx ci i k : Nat} {x : Int32} (hd : decode M.2.1 pc = .ok (.putfield idx, 3)) (hf : FL M.1.cls idx ci i) (hfin : (∃ C T N, CL[ci]? = some (C, T, N) ∧ (T i).2.2.2 = false) ∨ (FLp ci i true M.1.cls ∧ M.1.name = "<init>")) (ht : isI (tyF ci i) = true) (hnw : narrow (tyF ci i) (.int x) = .int x) (hfx : fits (tyF ci i) (.int x) = true) (hz : Z.2.1 k = some (.inl ci)) (kk : AX X M d mc ms cu su (pc + 3) lv st Z (up2 G k i x) L Q) : AX X M d mc ms cu su pc lv (.int x :: .ref k :: st) Z G L Q := by
  intro p l e R s m args below meth c H locs ls dC dI tc ad A N0 ad0 Qr hC hW hl hs hv hg hn hr
  obtain ⟨C, T, N, f1, f2, f3, f4, f5, f6, f7⟩ := hf
  obtain ⟨c1, c2, c3, c4, c5, c6, c7, c8, c9⟩ := id hC
  obtain ⟨hK, hP, hD, hS, hA, hSF, hSX, hF⟩ := id hW
  have hlen : i < ((List.range (nF ci)).map (fun i => fv ad (tyF ci i) Z G L k i)).length := by rw [List.length_map, List.length_range, f2]; exact f3
  have e2 : ((List.range (nF ci)).map (fun i => fv ad (tyF ci i) Z G L k i)).set i (.int x) = (List.range (nF ci)).map (fun i' => fv ad (tyF ci i') Z (up2 G k i x) L k i') := fl_set (ad := ad) (Z := Z) (Z' := Z) (G := G) (G' := up2 G k i x) (L := L) (L' := L) (k := k) (ci := ci) (i := i) (v := .int x) (fun j hj => by unfold fv; rw [up2_i hj]) (by rw [fv_I ht, up2_s])
  have e1 : ∀ q, (cw tc ad Z G L).set k (ad k, .inr (ci, ((List.range (nF ci)).map (fun i => fv ad (tyF ci i) Z G L k i)).set i (.int x))) = q → q = cw tc ad Z (up2 G k i x) L := fun q hq => by
    rw [← hq]
    exact cw_set rfl (fun j hj => cell_cong rfl rfl (up2_row hj) rfl) (by unfold cellOf; rw [hz, e2])
  have go : ∀ (H1 : Heap) (locs1 : List Loc), va_P (dC, dI) CL ((cw tc ad Z G L).set k (ad k, .inr (ci, ((List.range (nF ci)).map (fun i => fv ad (tyF ci i) Z G L k i)).set i (.int x)))) H1 → va_D A ((cw tc ad Z G L).set k (ad k, .inr (ci, ((List.range (nF ci)).map (fun i => fv ad (tyF ci i) Z G L k i)).set i (.int x)))) → va_S A s.heap H1 locs1 → W p l e R s m args below meth c H1 locs1 cu su Qr (F0 m (pc + 3) ls (cs ad st)) := fun H1 locs1 hP1 hD1 hS1 => by
    rw [e1 _ rfl] at hP1 hD1
    exact kk p l e R s m args below meth c H1 locs1 ls dC dI tc ad A N0 ad0 Qr hC ⟨hK, hP1, hD1, hS1, hA, hSF, hSX, hF⟩ hl hs.2.2 hv hg hn hr
  rcases hfin with ⟨C', T', N', g1, g2⟩ | ⟨⟨C', T', N', g1, g2, g3⟩, g4⟩
  · cases f1.symm.trans g1
    exact va_put (D := (dC, dI)) (ci := ci) (v := .int x) (ty := tyF ci i) c1 c2 c6 f5 (tyF ci) f6 f7 c5 hK hP hD hS k (cw_obj hF hz) f1 i f3 (c6 _ f4) (fun _ h9 => h9) g2 (f6 i f3) hnw hfx hlen hd go
  · cases f1.symm.trans g1
    exact va_putF (D := (dC, dI)) (ci := ci) (v := .int x) (ty := tyF ci i) c1 c2 c6 f5 (tyF ci) f6 f7 c5 hK hP hD hS k (cw_obj hF hz) f1 i f3 (c6 _ f4) (fun _ h9 => h9) g2 (c8.trans g4) g3 (f6 i f3) hnw hfx hlen hd go
theorem WF_putR {k i j : Nat} (hF : WF Z) (hj : j < Z.1) : WF (Z.1, Z.2.1, up2 Z.2.2 k i (some j)) := by
  refine ⟨hF.1, hF.2.1, fun a b c h => ?_, hF.2.2.2⟩
  unfold up2 at h
  by_cases h1 : a = k
  · by_cases h2 : b = i
    · rw [show (Z.1, Z.2.1, fun a b => if a = k then if b = i then some j else Z.2.2 a b else Z.2.2 a b).2.2 a b = some j by simp [h1, h2]] at h
      cases h
      exact hj
    · exact hF.2.2.1 a b c (by simpa [h1, h2] using h)
  · exact hF.2.2.1 a b c (by simpa [h1] using h)
theorem WF_putN {k i : Nat} (hF : WF Z) : WF (Z.1, Z.2.1, up2 Z.2.2 k i none) := by
  refine ⟨hF.1, hF.2.1, fun a b c h => ?_, hF.2.2.2⟩
  unfold up2 at h
  by_cases h1 : a = k
  · by_cases h2 : b = i
    · simp [h1, h2] at h
    · exact hF.2.2.1 a b c (by simpa [h1, h2] using h)
  · exact hF.2.2.1 a b c (by simpa [h1] using h)
/-- a field of references is put -/
theorem ax_putO {idx ci i k : Nat} {o : Option Nat} (hd : decode M.2.1 pc = .ok (.putfield idx, 3)) (hf : FL M.1.cls idx ci i) (hfin : (∃ C T N, CL[ci]? = some (C, T, N) ∧ (T i).2.2.2 = false) ∨ (FLp ci i true M.1.cls ∧ M.1.name = "<init>")) (ht : isR (tyF ci i) = true) (ho : ∀ j, o = some j → j < Z.1) (hz : Z.2.1 k = some (.inl ci)) (kk : AX X M d mc ms cu su (pc + 3) lv st (Z.1, Z.2.1, up2 Z.2.2 k i o) G L Q) : AX X M d mc ms cu su pc lv (orf o :: .ref k :: st) Z G L Q := by
  intro p l e R s m args below meth c H locs ls dC dI tc ad A N0 ad0 Qr hC hW hl hs hv hg hn hr
  obtain ⟨C, T, N, f1, f2, f3, f4, f5, f6, f7⟩ := hf
  obtain ⟨c1, c2, c3, c4, c5, c6, c7, c8, c9⟩ := id hC
  obtain ⟨hK, hP, hD, hS, hA, hSF, hSX, hF⟩ := id hW
  have hF' : WF (Z.1, Z.2.1, up2 Z.2.2 k i o) := by
    cases o with
    | none => exact WF_putN hF
    | some j => exact WF_putR hF (ho j rfl)
  have hvr : cv ad (orf o) = .null ∨ ∃ a, cv ad (orf o) = .ref a := by
    cases o with
    | none => exact Or.inl rfl
    | some j => exact Or.inr ⟨_, rfl⟩
  have hlen : i < ((List.range (nF ci)).map (fun i => fv ad (tyF ci i) Z G L k i)).length := by rw [List.length_map, List.length_range, f2]; exact f3
  have e2 : ((List.range (nF ci)).map (fun i => fv ad (tyF ci i) Z G L k i)).set i (cv ad (orf o)) = (List.range (nF ci)).map (fun i' => fv ad (tyF ci i') (Z.1, Z.2.1, up2 Z.2.2 k i o) G L k i') := fl_set (ad := ad) (Z := Z) (Z' := (Z.1, Z.2.1, up2 Z.2.2 k i o)) (G := G) (G' := G) (L := L) (L' := L) (k := k) (ci := ci) (i := i) (v := cv ad (orf o)) (fun j hj => by unfold fv; rw [show (Z.1, Z.2.1, up2 Z.2.2 k i o).2.2 k j = Z.2.2 k j from up2_i hj]) (by rw [fv_R ht, orf_cv]; exact congrArg (fun z => va_rf (Option.map ad z)) up2_s)
  have e1 : (cw tc ad Z G L).set k (ad k, .inr (ci, ((List.range (nF ci)).map (fun i => fv ad (tyF ci i) Z G L k i)).set i (cv ad (orf o)))) = cw tc ad (Z.1, Z.2.1, up2 Z.2.2 k i o) G L := cw_set rfl (fun j hj => cell_cong rfl (up2_row hj) rfl rfl) (by unfold cellOf; rw [show (Z.1, Z.2.1, up2 Z.2.2 k i o).2.1 k = some (.inl ci) from hz, e2])
  have go : ∀ (H1 : Heap) (locs1 : List Loc), va_P (dC, dI) CL ((cw tc ad Z G L).set k (ad k, .inr (ci, ((List.range (nF ci)).map (fun i => fv ad (tyF ci i) Z G L k i)).set i (cv ad (orf o))))) H1 → va_D A ((cw tc ad Z G L).set k (ad k, .inr (ci, ((List.range (nF ci)).map (fun i => fv ad (tyF ci i) Z G L k i)).set i (cv ad (orf o))))) → va_S A s.heap H1 locs1 → W p l e R s m args below meth c H1 locs1 cu su Qr (F0 m (pc + 3) ls (cs ad st)) := fun H1 locs1 hP1 hD1 hS1 => by
    rw [e1] at hP1 hD1
    exact kk p l e R s m args below meth c H1 locs1 ls dC dI tc ad A N0 ad0 Qr hC ⟨hK, hP1, hD1, hS1, hA, hSF, hSX, hF'⟩ hl hs.2.2 hv hg hn hr
  have hfr := fits_R ht _ hvr
  rcases hfin with ⟨C', T', N', g1, g2⟩ | ⟨⟨C', T', N', g1, g2, g3⟩, g4⟩
  · cases f1.symm.trans g1
    exact va_put (D := (dC, dI)) (ci := ci) (v := cv ad (orf o)) (ty := tyF ci i) c1 c2 c6 f5 (tyF ci) f6 f7 c5 hK hP hD hS k (cw_obj hF hz) f1 i f3 (c6 _ f4) (fun _ h9 => h9) g2 (f6 i f3) hfr.1 hfr.2 hlen hd go
  · cases f1.symm.trans g1
    exact va_putF (D := (dC, dI)) (ci := ci) (v := cv ad (orf o)) (ty := tyF ci i) c1 c2 c6 f5 (tyF ci) f6 f7 c5 hK hP hD hS k (cw_obj hF hz) f1 i f3 (c6 _ f4) (fun _ h9 => h9) g2 (c8.trans g4) g3 (f6 i f3) hfr.1 hfr.2 hlen hd go
end AXH
