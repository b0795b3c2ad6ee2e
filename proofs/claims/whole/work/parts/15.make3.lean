-- ===== new int[n][k], new long[n][k] =====
def Zm (Z : Zt) (ty : FieldType) (n k : Nat) : Zt := (Z.1 + 1 + n, (fun a => if a = Z.1 then some (.inr (.array ty, n)) else if Z.1 < a ∧ a < Z.1 + 1 + n then some (.inr (ty, k)) else Z.2.1 a), (fun a i => if a = Z.1 then (if i < n then some (Z.1 + 1 + i) else none) else if Z.1 < a ∧ a < Z.1 + 1 + n then none else Z.2.2 a i))
def Gm {α : Type} (G : Nat → Nat → α) (N n : Nat) (z : α) : Nat → Nat → α := fun a => if N ≤ a ∧ a < N + 1 + n then (fun _ => z) else G a
def adm (ad : Nat → Nat) (N n q : Nat) (r : Nat → Nat) : Nat → Nat := fun a => if a = N then q else if N < a ∧ a < N + 1 + n then r (a - (N + 1)) else ad a
theorem WF_m {Z : Zt} {ty : FieldType} {n k : Nat} (h : WF Z) (hN : Z.1 + 1 + n ≤ 1000) : WF (Zm Z ty n k) := by
  obtain ⟨h1, h2, h3, h4, h5⟩ := h
  refine ⟨fun a ha => ?_, fun a y hy => ?_, fun a i j hj => ?_, hN, fun a ci hk => ?_⟩
  · have ha' : a < Z.1 + 1 + n := ha
    show (if a = Z.1 then some (Sum.inr (FieldType.array ty, n)) else if Z.1 < a ∧ a < Z.1 + 1 + n then some (Sum.inr (ty, k)) else Z.2.1 a : Option Sh).isSome = true
    by_cases e : a = Z.1
    · rw [if_pos e]; rfl
    · by_cases e2 : Z.1 < a
      · rw [if_neg e, if_pos ⟨e2, ha'⟩]; rfl
      · rw [if_neg e, if_neg (fun z => e2 z.1)]; exact h1 a (by omega)
  · show a < Z.1 + 1 + n
    have hy' : (if a = Z.1 then some (Sum.inr (FieldType.array ty, n)) else if Z.1 < a ∧ a < Z.1 + 1 + n then some (Sum.inr (ty, k)) else Z.2.1 a : Option Sh) = some y := hy
    by_cases e : a = Z.1
    · omega
    · by_cases e2 : Z.1 < a ∧ a < Z.1 + 1 + n
      · exact e2.2
      · rw [if_neg e, if_neg e2] at hy'; have := h2 a y hy'; omega
  · show j < Z.1 + 1 + n
    have hj' : (if a = Z.1 then (if i < n then some (Z.1 + 1 + i) else none) else if Z.1 < a ∧ a < Z.1 + 1 + n then none else Z.2.2 a i : Option Nat) = some j := hj
    by_cases e : a = Z.1
    · rw [if_pos e] at hj'
      by_cases e3 : i < n
      · rw [if_pos e3] at hj'; cases hj'; omega
      · rw [if_neg e3] at hj'; cases hj'
    · by_cases e2 : Z.1 < a ∧ a < Z.1 + 1 + n
      · rw [if_neg e, if_pos e2] at hj'; cases hj'
      · rw [if_neg e, if_neg e2] at hj'; have := h3 a i j hj'; omega
  · have hk' : (if a = Z.1 then some (Sum.inr (FieldType.array ty, n)) else if Z.1 < a ∧ a < Z.1 + 1 + n then some (Sum.inr (ty, k)) else Z.2.1 a : Option Sh) = some (.inl ci) := hk
    by_cases e : a = Z.1
    · rw [if_pos e] at hk'; cases hk'
    · by_cases e2 : Z.1 < a ∧ a < Z.1 + 1 + n
      · rw [if_neg e, if_pos e2] at hk'; cases hk'
      · rw [if_neg e, if_neg e2] at hk'; exact h5 a ci hk'
section AXM3
variable {X : Option (Nat × (Nat → Int32))} {M : Mt} {d mc ms cu su pc : Nat} {lv : Lv} {st : List Value} {Z : Zt} {G : Gt} {L : Lt} {Q : Qt}
theorem cw_m {tc : FieldType → ClassId} {ad : Nat → Nat} {ty : FieldType} {n k q : Nat} {r : Nat → Nat} (hF : WF Z) (ht : isI ty = true ∨ ty = .long) :
    (cw tc ad Z G L ++ [(q, .inl (tc (.array ty), n, .inr (.inr (.inr (.inr (fun i => if i < n then some (r i) else none))))))]) ++ (List.range n).map (fun i => (r i, .inl (tc ty, av9 ad ty k Z (fun _ _ => 0) (fun _ _ => 0) 0))) = cw tc (adm ad Z.1 n q r) (Zm Z ty n k) (Gm G Z.1 n 0) (Gm L Z.1 n 0) := by
  have hlow : ∀ j, j < Z.1 → adm ad Z.1 n q r j = ad j := fun j hj => by
    unfold adm
    rw [if_neg (by omega), if_neg (by omega)]
  apply List.ext_getElem?
  intro j
  unfold cw
  show _ = ((List.range (Z.1 + 1 + n)).map (fun k_1 => (adm ad Z.1 n q r k_1, cellOf tc (adm ad Z.1 n q r) (Zm Z ty n k) (Gm G Z.1 n 0) (Gm L Z.1 n 0) k_1)))[j]?
  rcases Nat.lt_or_ge j Z.1 with h | h
  · rw [List.getElem?_append_left (by simp; omega), List.getElem?_append_left (by simp; omega), List.getElem?_map, List.getElem?_map, List.getElem?_range h, List.getElem?_range (by omega)]
    show some (ad j, _) = some (_, _)
    rw [hlow j h, cell_ext (Z' := Zm Z ty n k) (G' := Gm G Z.1 n 0) (L' := Gm L Z.1 n 0) hF hlow (by show (if j = Z.1 then _ else if Z.1 < j ∧ j < Z.1 + 1 + n then _ else Z.2.1 j) = _; rw [if_neg (by omega), if_neg (by omega)]) (by funext i; show (if j = Z.1 then _ else if Z.1 < j ∧ j < Z.1 + 1 + n then none else Z.2.2 j i) = _; rw [if_neg (by omega), if_neg (by omega)]) (by unfold Gm; rw [if_neg (by omega)]) (by unfold Gm; rw [if_neg (by omega)])]
  · rcases Nat.lt_or_ge Z.1 j with h2 | h2
    · rcases Nat.lt_or_ge j (Z.1 + 1 + n) with h3 | h3
      · rw [List.getElem?_append_right (by simp; omega), List.getElem?_map, List.getElem?_map, List.getElem?_range h3]
        simp only [List.length_append, List.length_map, List.length_range, List.length_cons, List.length_nil, Nat.zero_add]
        rw [List.getElem?_range (show j - (Z.1 + 1) < n by omega)]
        show some (r (j - (Z.1 + 1)), _) = some (_, _)
        have e1 : adm ad Z.1 n q r j = r (j - (Z.1 + 1)) := by unfold adm; rw [if_neg (by omega), if_pos ⟨h2, h3⟩]
        have e2 : (Zm Z ty n k).2.1 j = some (.inr (ty, k)) := by show (if j = Z.1 then _ else if Z.1 < j ∧ j < Z.1 + 1 + n then _ else Z.2.1 j) = _; rw [if_neg (by omega), if_pos ⟨h2, h3⟩]
        rw [e1]
        unfold cellOf
        rw [e2]
        show some (_, Sum.inl (tc ty, _)) = some (_, Sum.inl (tc ty, _))
        rcases ht with h | h
        · rw [av9_I h, av9_I h]
          unfold Gm
          rw [if_pos ⟨Nat.le_of_lt h2, h3⟩]
        · subst h
          unfold av9 Gm
          rw [if_pos ⟨Nat.le_of_lt h2, h3⟩]
      · rw [List.getElem?_eq_none (by simp; omega), List.getElem?_eq_none (by simp; omega)]
    · have hj : j = Z.1 := by omega
      subst hj
      rw [List.getElem?_append_left (by simp), List.getElem?_append_right (by simp), List.getElem?_map, List.getElem?_range (by omega)]
      have e1 : adm ad Z.1 n q r Z.1 = q := by unfold adm; rw [if_pos rfl]
      have e2 : (Zm Z ty n k).2.1 Z.1 = some (.inr (.array ty, n)) := by show (if Z.1 = Z.1 then _ else _) = _; rw [if_pos rfl]
      simp only [List.length_map, List.length_range, Nat.sub_self, List.getElem?_cons_zero, Option.map_some]
      rw [e1]
      unfold cellOf
      rw [e2]
      refine congrArg (fun z => some (q, Sum.inl (tc (.array ty), (n, Sum.inr (Sum.inr (Sum.inr (Sum.inr z))))))) (funext fun i => ?_)
      show _ = Option.map (adm ad Z.1 n q r) (if Z.1 = Z.1 then (if i < n then some (Z.1 + 1 + i) else none) else _)
      rw [if_pos rfl]
      by_cases hi : i < n
      · rw [if_pos hi, if_pos hi]
        show some (r i) = some (adm ad Z.1 n q r (Z.1 + 1 + i))
        unfold adm
        rw [if_neg (by omega), if_pos ⟨by omega, by omega⟩, show Z.1 + 1 + i - (Z.1 + 1) = i by omega]
      · rw [if_neg hi, if_neg hi]; rfl
theorem ax_mna {idx : Nat} {ty : FieldType} {n k : Int32} {N' K' t0 t1 : Nat} (hd : decode M.2.1 pc = .ok (.multianewarray idx 2, 4)) (hw : Cond.classLink M.1.cls idx ("[" ++ (FieldType.array ty).toString) ∈ TB) (hw2 : Cond.arrayClass ty ∈ TB) (ht : (ty = .int ∧ t0 = 5 ∧ t1 = 0) ∨ (ty = .long ∧ t0 = 6 ∧ t1 = 1)) (hn0 : n = nI N') (hk0 : k = nI K') (hb1 : N' ≤ 1000) (hb2 : K' ≤ 1000) (hN : Z.1 + 1 + N' ≤ 1000) (hc1 : cu + (1 + N') ≤ mc) (hc2 : su + (N' + N' * K') ≤ ms)
    (kk : AX X M d mc ms (cu + 1 + N') (su + N' + N' * K') (pc + 4) lv (.ref Z.1 :: st) (Zm Z ty N' K') (Gm G Z.1 N' 0) (Gm L Z.1 N' 0) Q) : AX X M d mc ms cu su pc lv (.int k :: .int n :: st) Z G L Q := by
  subst hn0
  subst hk0
  intro p l e R s m args below meth c H locs ls dC dI tc ad A N0 ad0 Qr hC hW hl hs hv hg hn hr
  obtain ⟨c1, c2, c3, c4, c5, c6, c7, c8, c9, c10, c11, c12⟩ := id hC
  obtain ⟨hK, hP, hD, hS, hA, hSF, hSX, hF⟩ := id hW
  have hti : isI ty = true ∨ ty = .long := by rcases ht with ⟨rfl, -⟩ | ⟨rfl, -⟩; exact Or.inl rfl; exact Or.inr rfl
  have hover : AO2 (.array ty) s := by rcases ht with ⟨rfl, -⟩ | ⟨rfl, -⟩; exact hSF.2.2.2.2.2.2.2.2.1; exact hSF.2.2.2.2.2.2.2.2.2.1
  have hcy : s.vm.findClass (FieldType.array ty).toString = some (tc ty) := by
    rcases ht with ⟨rfl, -⟩ | ⟨rfl, -⟩
    · exact (hK.2 0 _ rfl).2
    · exact (hK.2 1 _ rfl).2
  have hKt : va_RA s (tc (.array ty)) (.array ty) := by
    rcases ht with ⟨rfl, -⟩ | ⟨rfl, -⟩
    · exact (hK.2 5 _ rfl).2
    · exact (hK.2 6 _ rfl).2
  have hz : ∀ c : ClassId, Jvm.Free.Multi.innerC c K' (defaultValue ty) = vp_cell c (av9 ad ty K' Z (fun _ _ => 0) (fun _ _ => 0) 0) := fun c => by
    rcases ht with ⟨rfl, -⟩ | ⟨rfl, -⟩
    · show ({ cls := c, slots := Array.replicate K' (.int 0), vm := .none } : Cell) = arrV c K' (fun _ => .int 0)
      rw [arrV_new]
    · show ({ cls := c, slots := Array.replicate K' (.long 0), vm := .none } : Cell) = arrV c K' (fun _ => .long 0)
      rw [arrV_new]
  have hcb : componentBytes ty ≤ 8 := by rcases ht with ⟨rfl, -⟩ | ⟨rfl, -⟩ <;> decide
  refine va_mna (X := cw tc ad Z G L) (L := []) (f := fun _ => .inr (0, [])) (D := (dC, dI)) (ty := ty) (cy := tc ty) c1 c2 c5 (c6 _ hw) hover (c6 _ hw2) hcy hK (by rw [show va_pl [] (fun _ => Sum.inr (0, [])) = [] from rfl, List.append_nil]; exact hP) (by rw [show va_pl [] (fun _ => Sum.inr (0, [])) = [] from rfl, List.append_nil]; exact hD) hS hA (N' := N') (K' := K') (z := av9 ad ty K' Z (fun _ _ => 0) (fun _ _ => 0) 0) (nI_pos (by omega)) (nI_pos (by omega)) (nI_clamp (by omega)) (nI_clamp (by omega)) (by omega) (Nat.le_trans (Nat.mul_le_mul hb2 hcb) (by decide)) (by omega) (by rcases ht with ⟨rfl, -⟩ | ⟨rfl, -⟩ <;> rfl) (by rcases ht with ⟨rfl, -⟩ | ⟨rfl, -⟩ <;> rfl) (by omega) (by omega) hz hd (fun q r cA H1 hinj hnl hK1 hP1 hD1 hS1 => ?_)
  have ec : cA = tc (.array ty) := ra_one (Or.inl rfl) (K_last hK1).2 hKt
  subst ec
  have el : va_pl ([] ++ (List.range N').map r) (vr_up (fun _ => Sum.inr (0, [])) ((List.range N').map r) (.inl (tc ty, av9 ad ty K' Z (fun _ _ => 0) (fun _ _ => 0) 0))) = (List.range N').map (fun i => (r i, Sum.inl (tc ty, av9 ad ty K' Z (fun _ _ => 0) (fun _ _ => 0) 0))) := by
    unfold va_pl
    rw [List.nil_append, List.map_map]
    refine List.map_congr_left fun i hi => ?_
    show (r i, vr_up _ _ _ (r i)) = _
    rw [vr_up_in (List.mem_map.mpr ⟨i, hi, rfl⟩)]
  rw [el, cw_m hF hti] at hP1 hD1
  have hag : Ag Z.1 ad (adm ad Z.1 N' q r) := fun j hj => by
    unfold adm
    rw [if_neg (by rcases hj with h | h <;> omega), if_neg (by rcases hj with h | h <;> omega)]
  have hst' : cs (adm ad Z.1 N' q r) st = cs ad st := cs_ag hag hs.2.2
  have hle : Z.1 ≤ (Zm Z ty N' K').1 := by show Z.1 ≤ Z.1 + 1 + N'; omega
  have := kk p l e R s m args below meth c H1 locs ls dC dI tc (adm ad Z.1 N' q r) A N0 ad0 Qr hC ⟨hK, hP1, hD1, hS1, hA, SF_ag hSF hag, SX_ag hSX hag, WF_m hF hN⟩ (okL_mono hle hl) ⟨Or.inl (by show Z.1 < Z.1 + 1 + N'; omega), okS_mono hle hs.2.2⟩ (LV_ag hag hl hv) (Ag_tr hn hg hag) (Nat.le_trans hn hle) hr
  have e2 : cs (adm ad Z.1 N' q r) (.ref Z.1 :: st) = .ref q :: cs ad st := by
    show Value.ref (adm ad Z.1 N' q r Z.1) :: cs (adm ad Z.1 N' q r) st = _
    rw [hst']
    unfold adm
    rw [if_pos rfl]
  rw [e2] at this
  exact this
end AXM3
