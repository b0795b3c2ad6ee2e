/-! ===== BEGIN new T[n][m]: the outer array a place, the inner ones among the pooled ===== -/
/-- f, but v at every address of l -/
def vr_up {α : Type} (f : Nat → α) (l : List Nat) (v : α) : Nat → α := fun a => if a ∈ l then v else f a
theorem vr_up_in {α : Type} {f : Nat → α} {l : List Nat} {v : α} {a : Nat} (h : a ∈ l) : vr_up f l v a = v := if_pos h
theorem vr_up_ne {α : Type} {f : Nat → α} {l : List Nat} {v : α} {a : Nat} (h : a ∉ l) : vr_up f l v a = f a := if_neg h
theorem vr_rows {L l : List Nat} {f : Nat → va_E} {e : va_E} (h : ∀ a, a ∈ l → a ∉ L) : va_pl L f ++ l.map (fun a => (a, e)) = va_pl (L ++ l) (vr_up f l e) := by
  unfold va_pl
  rw [List.map_append]
  congr 1
  · apply List.map_congr_left
    intro a ha
    rw [vr_up_ne (fun q => h a q ha)]
  · apply List.map_congr_left
    intro a ha
    rw [vr_up_in ha]
theorem vr_lay {X rows : va_W} {x : Nat × va_E} {pl : va_W} {D : va_G} {cl : List vw_C} {H : Heap} (hP : va_P D cl (((X ++ pl) ++ [x]) ++ rows) H) : va_P D cl ((X ++ [x]) ++ (pl ++ rows)) H := by
  rw [List.append_assoc (X ++ pl)] at hP
  have h := va_P.swap hP
  rw [← List.append_assoc X] at h
  have h2 := va_P.swap h
  rw [List.append_assoc (X ++ [x])] at h2
  exact h2
theorem vr_layD {X rows : va_W} {x : Nat × va_E} {pl : va_W} {A : Nat → Prop} (hD : va_D A (((X ++ pl) ++ [x]) ++ rows)) : va_D A ((X ++ [x]) ++ (pl ++ rows)) := by
  rw [List.append_assoc (X ++ pl)] at hD
  have h := va_D.swap hD
  rw [← List.append_assoc X] at h
  have h2 := va_D.swap h
  rw [List.append_assoc (X ++ [x])] at h2
  exact h2
theorem vr_outer (c : ClassId) (N h0 : Nat) : ∀ i : Nat, Jvm.Free.Multi.outerC c N h0 i = arrV c N (fun j => va_rf (if j < i then some (h0 + 1 + j) else none))
  | 0 => by
    show ({ cls := c, slots := Array.replicate N .null, vm := .none } : Cell) = _
    rw [arrV_new]
    refine congrArg (arrV c N) (funext fun j => ?_)
    simp [va_rf]
  | i + 1 => by
    show (Jvm.Free.Multi.outerC c N h0 i).setSlot i (.ref (h0 + 1 + i)) = _
    rw [vr_outer c N h0 i, arrV_store]
    refine congrArg (arrV c N) (funext fun j => ?_)
    by_cases e : j = i
    · subst e
      simp [updV, va_rf]
    · by_cases h : j < i
      · simp [updV, e, h, Nat.lt_succ_of_lt h]
      · simp [updV, e, h, show ¬ j < i + 1 by omega]
section VGM
variable {p : Program} {l : Launch} {e : Env} {R : Room} {s : State} {m : MethodId} {args : Array Value} {below : List Frame} {meth : Method} {c : Code} {H : Heap} {locs : List Loc} {cells slots : Nat} {Q : State → Prop}
variable {cc : ByteArray} {pc : Nat} {ls : Array Slot} {rest : List Value} {D : va_G} {cl : List vw_C} {A : Nat → Prop} {a : Nat} {tys : List (ClassId × FieldType)} {ws : va_W} {H0 : Heap}
theorem va_mna {X : va_W} {L : List Nat} {f : Nat → va_E} {cc : ByteArray} (hexec : p.tables.exec = Jvm.exec) (hb : c.code = cc) {own : String} {index : Nat} {ty : FieldType} {cy : ClassId} (hown : s.vm.findClass own = some m.cls) (hclink : (Cond.classLink own index ("[" ++ (FieldType.array ty).toString)).before args s = true) (hover : AO2 (.array ty) s) (harr : (Cond.arrayClass ty).before args s = true) (hcy : s.vm.findClass (FieldType.array ty).toString = some cy)
    (hK : va_K D cl tys s) (hP : va_P D cl (X ++ va_pl L f) H) (hD : va_D A (X ++ va_pl L f)) (hS : va_S A H0 H locs) (hA : ∀ q, H0.size ≤ q → A q) {n k : Int32} {N' K' : Nat} {z : vp_A} (hn : ¬ n < 0) (hk : ¬ k < 0) (hN : n.toNatClampNeg = N') (hM : k.toNatClampNeg = K')
    (hb1 : N' * 4 ≤ 536870912) (hb2 : K' * componentBytes ty ≤ 536870912) (hb3 : K' ≤ 536870912) (hdf : fits ty (defaultValue ty) = true) (hdd : (defaultValue ty).isDefault = true) (hcells : cells + (1 + N') ≤ R.cells) (hslots : slots + (N' + N' * K') ≤ R.slots) (hz : ∀ c : ClassId, Jvm.Free.Multi.innerC c K' (defaultValue ty) = vp_cell c z) (hdg : decode cc pc = .ok (.multianewarray index 2, 4))
    (kk : ∀ (q : Nat) (r : Nat → Nat) (cA : ClassId) (H1 : Heap), (∀ i j : Nat, i < N' → j < N' → r i = r j → i = j) → (∀ i : Nat, i < N' → r i ∉ L) → va_K D cl (tys ++ [(cA, .array ty)]) s →
      va_P D cl ((X ++ [(q, .inl (cA, N', .inr (.inr (.inr (.inr (fun i => if i < N' then some (r i) else none))))))]) ++ va_pl (L ++ (List.range N').map r) (vr_up f ((List.range N').map r) (.inl (cy, z)))) H1 → va_D A ((X ++ [(q, .inl (cA, N', .inr (.inr (.inr (.inr (fun i => if i < N' then some (r i) else none))))))]) ++ va_pl (L ++ (List.range N').map r) (vr_up f ((List.range N').map r) (.inl (cy, z)))) → va_S A H0 H1 locs →
      W p l e R s m args below meth c H1 locs (cells + 1 + N') (slots + N' + N' * K') Q (F0 m (pc + 4) ls (.ref q :: rest))) : W p l e R s m args below meth c H locs cells slots Q (F0 m pc ls (.int k :: .int n :: rest)) := by
  subst hN
  subst hM
  intro T hT Xs
  obtain ⟨vm₁, cA, comp, -, fA, fC, hO, -, X', step⟩ := Xs.multianewarray2F hexec hown hclink (show (Cond.arrayOver (.array ty)).before args s = true from hover) harr (g := F0 m pc ls (.int k :: .int n :: rest)) rfl (by rw [hb]; exact hdg) rfl hn hk hb1 hb2 hb3 hdf hdd hcells hslots
  have ec : some cy = some comp := hcy.symm.trans fC
  cases ec
  generalize hF : Jvm.Free.Multi.fill (T.setVm vm₁) cA cy n.toNatClampNeg k.toNatClampNeg (defaultValue ty) n.toNatClampNeg = F at X' step
  have hTh : (T.setVm vm₁).heap = H := hT
  obtain ⟨f1, f2, -, -⟩ := Jvm.Free.Multi.fill_facts (T.setVm vm₁) cA cy n.toNatClampNeg k.toNatClampNeg (defaultValue ty) n.toNatClampNeg
  rw [hF, hTh] at f1 f2
  have hold : ∀ x : Nat, x < H.size → F.heap[x]? = H[x]? := fun x hx => by
    have := Jvm.Free.Multi.fill_old (T.setVm vm₁) cA cy n.toNatClampNeg k.toNatClampNeg (defaultValue ty) (a := x) (by rw [hTh]; exact hx) n.toNatClampNeg
    rw [hF, hTh] at this
    exact this
  have hrow : ∀ j : Nat, j < n.toNatClampNeg → F.heap[H.size + 1 + j]? = some (vp_cell cy z) := fun j hj => by
    have := Jvm.Free.Multi.fill_inner (T.setVm vm₁) cA cy n.toNatClampNeg k.toNatClampNeg (defaultValue ty) n.toNatClampNeg j hj
    rw [hF, hTh, hz] at this
    exact this
  have hout : Jvm.Free.Multi.outerC cA n.toNatClampNeg H.size n.toNatClampNeg = vp_cell cA (n.toNatClampNeg, .inr (.inr (.inr (.inr (fun i => if i < n.toNatClampNeg then some (H.size + 1 + i) else none))))) := by
    rw [vp_cell_q]
    exact vr_outer cA n.toNatClampNeg H.size n.toNatClampNeg
  rw [hout] at f2
  have hlt : ∀ a, a ∈ L → a < H.size := fun a ha => by
    obtain ⟨k9, hk9⟩ := va_pl_get (X := X) (f := f) ha
    exact (hP k9 _ hk9).lt
  have hnl : ∀ i : Nat, i < n.toNatClampNeg → H.size + 1 + i ∉ L := fun i _ h => by
    have := hlt _ h
    omega
  have hnm : ∀ a, a ∈ (List.range n.toNatClampNeg).map (fun i => H.size + 1 + i) → a ∉ L := fun a ha h => by
    obtain ⟨i, -, rfl⟩ := List.mem_map.mp ha
    have := hlt _ h
    omega
  have hP0 : va_P D cl (X ++ va_pl L f) F.heap := hP.kept (fun k9 x hx => hold x.1 ((hP k9 x hx).lt))
  have hP1 : va_P D cl ((X ++ va_pl L f) ++ [(H.size, .inl (cA, n.toNatClampNeg, .inr (.inr (.inr (.inr (fun i => if i < n.toNatClampNeg then some (H.size + 1 + i) else none))))))]) F.heap := hP0.app (fun k9 x hx => by
    have h0 : k9 < 1 := (List.getElem?_eq_some_iff.mp hx).1
    rw [show k9 = 0 by omega] at hx
    cases hx
    exact f2)
  have hP2 : va_P D cl (((X ++ va_pl L f) ++ [(H.size, .inl (cA, n.toNatClampNeg, .inr (.inr (.inr (.inr (fun i => if i < n.toNatClampNeg then some (H.size + 1 + i) else none))))))]) ++ ((List.range n.toNatClampNeg).map (fun i => H.size + 1 + i)).map (fun a => (a, .inl (cy, z)))) F.heap := hP1.app (fun k9 x hx => by
    obtain ⟨a, ha, rfl⟩ := List.mem_map.mp (List.mem_of_getElem? hx)
    obtain ⟨i, hi, rfl⟩ := List.mem_map.mp ha
    exact hrow i (List.mem_range.mp hi))
  have hD2 : va_D A (((X ++ va_pl L f) ++ [(H.size, .inl (cA, n.toNatClampNeg, .inr (.inr (.inr (.inr (fun i => if i < n.toNatClampNeg then some (H.size + 1 + i) else none))))))]) ++ ((List.range n.toNatClampNeg).map (fun i => H.size + 1 + i)).map (fun a => (a, .inl (cy, z)))) := by
    have hD1 := hD.push (e := .inl (cA, n.toNatClampNeg, .inr (.inr (.inr (.inr (fun i => if i < n.toNatClampNeg then some (H.size + 1 + i) else none)))))) hP rfl (hA _ hS.1)
    generalize hW1 : (X ++ va_pl L f) ++ [(H.size, .inl (cA, n.toNatClampNeg, .inr (.inr (.inr (.inr (fun i => if i < n.toNatClampNeg then some (H.size + 1 + i) else none))))))] = W1 at hD1 hP1 ⊢
    have hle : ∀ (k9 : Nat) (x : Nat × va_E), W1[k9]? = some x → x.1 ≤ H.size := fun k9 x hx => by
      rw [← hW1] at hx
      by_cases hl : k9 < (X ++ va_pl L f).length
      · rw [List.getElem?_append_left hl] at hx
        exact Nat.le_of_lt ((hP k9 x hx).lt)
      · rw [List.getElem?_append_right (by omega)] at hx
        have h0 : k9 - (X ++ va_pl L f).length < 1 := (List.getElem?_eq_some_iff.mp hx).1
        rw [show k9 - (X ++ va_pl L f).length = 0 by omega] at hx
        cases hx
        exact Nat.le_refl _
    have hr : ∀ (k9 : Nat) (x : Nat × va_E), (((List.range n.toNatClampNeg).map (fun i => H.size + 1 + i)).map (fun a => ((a, .inl (cy, z)) : Nat × va_E)))[k9]? = some x → x.1 = H.size + 1 + k9 := fun k9 x hx => by
      rw [List.getElem?_map, List.getElem?_map] at hx
      by_cases h9 : k9 < n.toNatClampNeg
      · rw [List.getElem?_range h9] at hx
        cases hx
        rfl
      · have hn0 : (List.range n.toNatClampNeg)[k9]? = none := List.getElem?_eq_none (by rw [List.length_range]; omega)
        rw [hn0] at hx
        cases hx
    refine ⟨fun i j x y hi hj hxy => ?_, fun k9 x hx => ?_⟩
    · by_cases h1 : i < W1.length <;> by_cases h2 : j < W1.length
      · rw [List.getElem?_append_left h1] at hi
        rw [List.getElem?_append_left h2] at hj
        exact hD1.1 i j x y hi hj hxy
      · rw [List.getElem?_append_left h1] at hi
        rw [List.getElem?_append_right (by omega)] at hj
        have := hle _ _ hi
        have := hr _ _ hj
        omega
      · rw [List.getElem?_append_right (by omega)] at hi
        rw [List.getElem?_append_left h2] at hj
        have := hle _ _ hj
        have := hr _ _ hi
        omega
      · rw [List.getElem?_append_right (by omega)] at hi hj
        have := hr _ _ hi
        have := hr _ _ hj
        omega
    · by_cases h1 : k9 < W1.length
      · rw [List.getElem?_append_left h1] at hx
        exact hD1.2 k9 x hx
      · rw [List.getElem?_append_right (by omega)] at hx
        have := hr _ _ hx
        exact hA _ (by have := hS.1; omega)
  have hAr : ArrOfT s cA (.array ty) := fun N9 z9 => by
    obtain ⟨-, k9, hk9, cm9, hkk9⟩ := (hO 0 0 0).1
    exact ⟨(fun q hq => by cases hq), k9, hk9, cm9, hkk9⟩
  have hK2 : va_K D cl (tys ++ [(cA, .array ty)]) s := ⟨hK.1, fun k9 x hx => by
    by_cases hl : k9 < tys.length
    · rw [List.getElem?_append_left hl] at hx
      exact hK.2 k9 x hx
    · rw [List.getElem?_append_right (by omega)] at hx
      have h0 : k9 - tys.length < 1 := (List.getElem?_eq_some_iff.mp hx).1
      rw [show k9 - tys.length = 0 by omega] at hx
      cases hx
      exact ⟨hAr, fA⟩⟩
  obtain ⟨t, a1, b1⟩ := kk H.size (fun i => H.size + 1 + i) cA F.heap (fun i j _ _ h => by have h9 : H.size + 1 + i = H.size + 1 + j := h; omega) hnl hK2 (by rw [← vr_rows hnm]; exact vr_lay hP2) (by rw [← vr_rows hnm]; exact vr_layD hD2) ⟨by rw [f1]; have := hS.1; omega, fun x h1 h2 => (hold x (Nat.lt_of_lt_of_le h1 hS.1)).trans (hS.2.1 x h1 h2), hS.2.2⟩ F rfl X'
  refine ⟨t, step t ?_, b1⟩
  have e : T.heap.size = H.size := by rw [hT]
  rw [e]
  exact a1
end VGM
/-! ===== END ===== -/


section AXM2
variable {X : Option (Nat × (Nat → Int32))} {M : Mt} {d mc ms cu su pc : Nat} {lv : Lv} {st : List Value} {Z : Zt} {G : Gt} {L : Lt} {Q : Qt}
/-- behind the making of one more cell -/
theorem ax_made {p : Program} {l : Launch} {e : Env} {R : Room} {s : State} {m : MethodId} {args : Array Value} {below : List Frame} {meth : Method} {c : Code} {H1 : Heap} {locs : List Loc} {ls : Array Slot} {dC : Nat → ClassId} {dI : Nat → Nat → Nat} {tc : FieldType → ClassId} {ad : Nat → Nat} {A : Nat → Prop} {N0 q pc' cu' su' : Nat} {ad0 : Nat → Nat} {Qr : State → Prop} {x : Sh} {e9 : va_E}
    (hC : Cx M d mc ms p R s m args meth c) (hK : va_K (dC, dI) CL (tyl tc) s) (hA : ∀ q, s.heap.size ≤ q → A q) (hSF : SF ad A s) (hSX : SX X ad A s) (hF : WF Z) (hl : okL Z.1 lv) (hs : okS Z.1 st) (hv : LV ad ls M.2.2.1 lv) (hg : Ag N0 ad0 ad) (hn : N0 ≤ Z.1) (hr : Rt X M mc ms Q p l e R s m args below meth c dC dI tc A N0 ad0 Qr)
    (hN : Z.1 + 1 ≤ 1000) (hx : ∀ ci, x = .inl ci → ci < 13) (hcell : cellOf tc (upd1 ad Z.1 q) (Zn Z x) (upr G Z.1 (fun _ => 0)) (upr L Z.1 (fun _ => 0)) Z.1 = e9) (hP1 : va_P (dC, dI) CL (cw tc ad Z G L ++ [(q, e9)]) H1) (hD1 : va_D A (cw tc ad Z G L ++ [(q, e9)])) (hS1 : va_S A s.heap H1 locs)
    (kk : AX X M d mc ms cu' su' pc' lv (.ref Z.1 :: st) (Zn Z x) (upr G Z.1 (fun _ => 0)) (upr L Z.1 (fun _ => 0)) Q) : W p l e R s m args below meth c H1 locs cu' su' Qr (F0 m pc' ls (.ref q :: cs ad st)) := by
  rw [cw_push hF hcell] at hP1 hD1
  have hN' : Z.1 < 1000 := by omega
  have hag : Ag Z.1 ad (upd1 ad Z.1 q) := Ag_new hN'
  have hst' : cs (upd1 ad Z.1 q) st = cs ad st := cs_ag hag hs
  have := kk p l e R s m args below meth c H1 locs ls dC dI tc (upd1 ad Z.1 q) A N0 ad0 Qr hC ⟨hK, hP1, hD1, hS1, hA, SF_ag hSF hag, SX_ag hSX hag, WF_n hF hN hx⟩ (okL_mono (Nat.le_succ _) hl) ⟨Or.inl (Nat.lt_succ_self _), okS_mono (Nat.le_succ _) hs⟩ (LV_ag hag hl hv) (Ag_n hN' hn hg) (Nat.le_trans hn (Nat.le_succ _)) hr
  have e2 : cs (upd1 ad Z.1 q) (.ref Z.1 :: st) = .ref q :: cs ad st := by
    show Value.ref (upd1 ad Z.1 q Z.1) :: cs (upd1 ad Z.1 q) st = _
    rw [upd1_s, hst']
  rw [e2] at this
  exact this
theorem ra_one {s : State} {c1 c2 : ClassId} {ty : FieldType} (h : isR ty = true ∨ isI ty = true ∨ ty = .long) (h1 : va_RA s c1 ty) (h2 : va_RA s c2 ty) : c1 = c2 := by
  cases ty with
  | object C =>
    obtain ⟨k1, m1, a1, a2, a3, a4⟩ := h1
    obtain ⟨k2, m2, b1, b2, b3, b4⟩ := h2
    exact Option.some.inj (a4.symm.trans b4)
  | _ => exact Option.some.inj (h1.symm.trans h2)
theorem K_last {D : va_G} {cl : List vw_C} {tys : List (ClassId × FieldType)} {s : State} {q : ClassId × FieldType} (h : va_K D cl (tys ++ [q]) s) : ArrOfT s q.1 q.2 ∧ va_RA s q.1 q.2 := h.2 tys.length q (by simp)
/-- new int[n] and the like -/
theorem ax_newarr {atype : ArrayType} {ty : FieldType} {n : Int32} {N' t0 : Nat} (hd : decode M.2.1 pc = .ok (.newarray atype, 2)) (hty : newarray.typeOf atype = ty) (ht : isI ty = true ∨ ty = .long) (h0 : ∀ tc : FieldType → ClassId, (tyl tc)[t0]? = some (tc ty, ty)) (hw : Cond.arrayClass ty ∈ TB) (hn0 : n = nI N') (hb : N' * componentBytes ty ≤ 536870912) (hb2 : N' < 2147483648) (hN : Z.1 + 1 ≤ 1000) (hc1 : cu + 1 ≤ mc) (hc2 : su + N' ≤ ms)
    (kk : AX X M d mc ms (cu + 1) (su + N') (pc + 2) lv (.ref Z.1 :: st) (Zn Z (.inr (ty, N'))) (upr G Z.1 (fun _ => 0)) (upr L Z.1 (fun _ => 0)) Q) : AX X M d mc ms cu su pc lv (.int n :: st) Z G L Q := by
  subst hn0
  intro p l e R s m args below meth c H locs ls dC dI tc ad A N0 ad0 Qr hC hW hl hs hv hg hn hr
  obtain ⟨c1, c2, c3, c4, c5, c6, c7, c8, c9, c10, c11, c12⟩ := id hC
  obtain ⟨hK, hP, hD, hS, hA, hSF, hSX, hF⟩ := id hW
  have hcell : ∀ (q : Nat), cellOf tc (upd1 ad Z.1 q) (Zn Z (.inr (ty, N'))) (upr G Z.1 (fun _ => 0)) (upr L Z.1 (fun _ => 0)) Z.1 = .inl (tc ty, av9 ad ty N' Z (fun _ _ => 0) (fun _ _ => 0) 0) := fun q => by
    unfold cellOf
    rw [show (Zn Z (.inr (ty, N'))).2.1 Z.1 = some (.inr (ty, N')) from upd1_s]
    show Sum.inl (tc ty, _) = Sum.inl (tc ty, _)
    rcases ht with h | h
    · rw [av9_I h, av9_I h, upr_s]
    · subst h
      unfold av9
      rw [upr_s]
  refine va_newa (atype := atype) (ty := ty) (D := (dC, dI)) c1 c2 (by rw [hty]; exact c6 _ hw) hty hK hP hD hS hA (a0 := av9 ad ty N' Z (fun _ _ => 0) (fun _ _ => 0) 0) (fun cA => ?_) (nI_pos hb2) (nI_clamp hb2) hb (by omega) (by omega) hd (fun q cA H1 hK1 hP1 hD1 hS1 => ?_)
  · rcases ht with h | h
    · rw [av9_I h]
      cases ty <;> first | cases h | rfl
      all_goals rfl
    · subst h
      rfl
  · have ec : cA = tc ty := ra_one (by rcases ht with h | h; exact Or.inr (Or.inl h); exact Or.inr (Or.inr h)) (K_last hK1).2 (hK.2 t0 _ (h0 tc)).2
    subst ec
    exact ax_made hC hK hA hSF hSX hF hl hs.2 hv hg hn hr hN (fun ci h => by cases h) (hcell q) hP1 hD1 hS1 kk
/-- new Rocket[n] -/
theorem ax_newref {idx : Nat} {n : Int32} {N' : Nat} (hd : decode M.2.1 pc = .ok (.anewarray idx, 3)) (hw : Cond.classLink M.1.cls idx "FireApologies$Rocket" ∈ TB) (hn0 : n = nI N') (hb : N' * 4 ≤ 536870912) (hN : Z.1 + 1 ≤ 1000) (hc1 : cu + 1 ≤ mc) (hc2 : su + N' ≤ ms)
    (kk : AX X M d mc ms (cu + 1) (su + N') (pc + 3) lv (.ref Z.1 :: st) (Zn Z (.inr (.object "FireApologies$Rocket", N'))) (upr G Z.1 (fun _ => 0)) (upr L Z.1 (fun _ => 0)) Q) : AX X M d mc ms cu su pc lv (.int n :: st) Z G L Q := by
  subst hn0
  intro p l e R s m args below meth c H locs ls dC dI tc ad A N0 ad0 Qr hC hW hl hs hv hg hn hr
  obtain ⟨c1, c2, c3, c4, c5, c6, c7, c8, c9, c10, c11, c12⟩ := id hC
  obtain ⟨hK, hP, hD, hS, hA, hSF, hSX, hF⟩ := id hW
  have hb2 : N' < 2147483648 := by omega
  refine va_newq (D := (dC, dI)) c1 c2 c5 (c6 _ hw) hSF.2.2.2.2.2.2.2.1 hK hP hD hS hA (nI_pos hb2) (nI_clamp hb2) hb (by omega) (by omega) hd (fun q cA H1 hK1 hP1 hD1 hS1 => ?_)
  have ec : cA = tc (.object "FireApologies$Rocket") := ra_one (Or.inl rfl) (K_last hK1).2 (hK.2 4 _ rfl).2
  subst ec
  refine ax_made hC hK hA hSF hSX hF hl hs.2 hv hg hn hr hN (fun ci h => by cases h) ?_ hP1 hD1 hS1 kk
  unfold cellOf
  rw [show (Zn Z (.inr (.object "FireApologies$Rocket", N'))).2.1 Z.1 = some (.inr (.object "FireApologies$Rocket", N')) from upd1_s]
  show Sum.inl (tc _, av9 _ (.object _) N' _ _ _ _) = _
  unfold av9
  refine congrArg (fun z => Sum.inl (tc _, (N', Sum.inr (Sum.inr (Sum.inr (Sum.inr z)))))) (funext fun j => ?_)
  rw [show (Zn Z (.inr (.object "FireApologies$Rocket", N'))).2.2 Z.1 j = none from congrFun upr_s j]
  rfl
/-- a row of Rockets gets one -/
theorem ax_aastR {k n j q ci : Nat} {i : Int32} (hd : decode M.2.1 pc = .ok (.aastore, 1)) (hz : Z.2.1 k = some (.inr (.object "FireApologies$Rocket", n))) (hi : i = nI j) (hj : j < n) (hnn : n < 2147483648) (hq : Z.2.1 q = some (.inl ci)) (hcs : ∃ r : vw_C, CL[ci]? = some r ∧ (r.1 = "FireApologies$Rocket" ∨ (r.1, "FireApologies$Rocket") ∈ NWc))
    (kk : AX X M d mc ms cu su (pc + 1) lv st (Z.1, Z.2.1, up2 Z.2.2 k j (some q)) G L Q) : AX X M d mc ms cu su pc lv (.ref q :: .int i :: .ref k :: st) Z G L Q := by
  subst hi
  intro p l e R s m args below meth c H locs ls dC dI tc ad A N0 ad0 Qr hC hW hl hs hv hg hn hr
  obtain ⟨c1, c2, c3, c4, c5, c6, c7, c8, c9, c10, c11, c12⟩ := id hC
  obtain ⟨hK, hP, hD, hS, hA, hSF, hSX, hF⟩ := id hW
  obtain ⟨r, r1, r2⟩ := hcs
  have hany : va_Any "FireApologies$Rocket" s H (ad q) := va_rAny hK hP (cw_obj hF hq) r1 (fun comp c0 h1 h2 => by
    rcases r2 with h | h
    · rw [h] at h2
      cases h1.symm.trans h2
      exact va_asg _ _
    · obtain ⟨c3, t3, w1, w2, w3⟩ := Cond.castable_spec (va_Nw.use (A := args) rfl (hSF.2.2.2.2.2.2.1 _ h))
      cases h1.symm.trans w2
      cases h2.symm.trans w1
      exact w3)
  have hcl : (nI j).toNatClampNeg = j := nI_clamp (Nat.lt_trans hj hnn)
  have hc := cw_arr (tc := tc) (ad := ad) (G := G) (L := L) hF hz
  rw [av9_R rfl] at hc
  refine va_astqM c1 c2 hK hP hD hS k 4 hc rfl hany (vp_in_nI hj hnn) hd (fun H1 locs1 hP1 hD1 hS1 => ?_)
  rw [hcl] at hP1 hD1
  have ecw : (cw tc ad Z G L).set k (ad k, .inl (tc (.object "FireApologies$Rocket"), n, .inr (.inr (.inr (.inr (va_up (fun j => (Z.2.2 k j).map ad) j (some (ad q)))))))) = cw tc ad (Z.1, Z.2.1, up2 Z.2.2 k j (some q)) G L := cw_set rfl (fun a ha => cell_cong rfl (up2_row ha) rfl rfl) (by
    unfold cellOf
    rw [show (Z.1, Z.2.1, up2 Z.2.2 k j (some q)).2.1 k = some (.inr (.object "FireApologies$Rocket", n)) from hz]
    show Sum.inl (tc _, av9 _ (.object _) n _ _ _ _) = _
    unfold av9
    refine congrArg (fun z => Sum.inl (tc _, (n, Sum.inr (Sum.inr (Sum.inr (Sum.inr z)))))) (funext fun b => ?_)
    show Option.map ad (up2 Z.2.2 k j (some q) k b) = _
    rw [up2_up]
    unfold va_up
    by_cases hb : b = j
    · rw [if_pos hb, if_pos hb]; rfl
    · rw [if_neg hb, if_neg hb])
  rw [ecw] at hP1 hD1
  exact kk p l e R s m args below meth c H1 locs1 ls dC dI tc ad A N0 ad0 Qr hC ⟨hK, hP1, hD1, hS1, hA, hSF, hSX, WF_putR hF (hF.2.1 q _ hq)⟩ hl hs.2.2.2 hv hg hn hr
end AXM2
