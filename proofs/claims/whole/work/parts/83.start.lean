-- ===== the law: where it starts =====
def tmS (i : Nat) : Term := if i = 0 then .string "FireApologies$Reader" 55 else if i = 1 then .string "FireApologies$Reader" 61 else if i = 2 then .string "FireApologies$Reader" 69 else if i = 3 then .string "FireApologies$Reader" 84 else if i = 4 then .string "FireApologiesModel" 214 else if i = 5 then .string "FireApologiesModel" 216 else .string "FireApologiesModel" 182
def FLS : List Cond := flatC (Jvm.Cond.and given_1 narrow_1)
theorem f_1 : ∀ i, i < 7 → Cond.exactly (tmS i) "java/lang/String" ∈ FLS := by decide +kernel
theorem f_2 : ∀ i, i < 7 → Cond.eq (.field (tmS i) "java/lang/String" "coder" "B") (.int 0) ∈ FLS := by decide +kernel
theorem f_3 : ∀ i, i < 7 → Cond.arrayOf (.field (tmS i) "java/lang/String" "value" "[B") .byte ∈ FLS := by decide +kernel
theorem f_4 : ∀ i, i < 7 → Cond.eq (.length (.field (tmS i) "java/lang/String" "value" "[B")) (.int (Int32.ofNat (sLen.getD i 0))) ∈ FLS := by decide +kernel
theorem f_5 : ∀ i, i < 7 → ∀ j, j < sLen.getD i 0 → Cond.eq (.elem (.field (tmS i) "java/lang/String" "value" "[B") (.int (Int32.ofNat j))) (.int ((sByt.getD i []).getD j 0)) ∈ FLS := by decide +kernel
theorem f_6 : ∀ i, i < 7 → ∀ j, j < 7 → i ≠ j → Cond.not (Cond.eq (tmS i) (tmS j)) ∈ FLS ∨ Cond.not (Cond.eq (tmS j) (tmS i)) ∈ FLS := by decide +kernel
theorem f_7 : ∀ j, j < 7 → Cond.eq (.elem (.static "FireApologies" "ABOVE" "[I") (.int (Int32.ofNat j))) (.int (tAbove.getD j 0)) ∈ FLS := by decide +kernel
theorem f_8 : Cond.arrayOf (.static "FireApologies" "ABOVE" "[I") .int ∈ FLS := by decide +kernel
theorem f_9 : Cond.eq (.length (.static "FireApologies" "ABOVE" "[I")) (.int (Int32.ofNat 7)) ∈ FLS := by decide +kernel
theorem f_10 : Cond.eq (.static "java/lang/String" "COMPACT_STRINGS" "Z") (.int 1) ∈ FLS := by decide +kernel
theorem f_11 : Cond.isRef (.static "jdk/internal/util/Preconditions" "SIOOBE_FORMATTER" "Ljava/util/function/BiFunction;") ∈ FLS := by decide +kernel
theorem TB_in {w : Cond} (h : w ∈ TB) : w ∈ lw_tbl := (List.mem_filter.mp h).1
theorem tb_t {w : Cond} (i : Nat) (h : tables_1[i]? = some w) : w ∈ lw_tbl := List.mem_append_right _ (List.mem_of_getElem? h)
theorem SF_0 {b : Nat} {s : State} (hts : ∀ w ∈ lw_tbl, w.before #[Value.ref b] s = true) (hgv : (Jvm.Cond.and given_1 narrow_1).before #[Value.ref b] s = true) : ∃ ad : Nat → Nat, ad 3000 = b ∧ SF ad (fun q => s.heap.size ≤ q) s := by
  have fl : ∀ c ∈ FLS, c.before #[Value.ref b] s = true := flat_of_before _ hgv
  have hA : ∀ a : Nat, a < s.heap.size → ¬ (fun q => s.heap.size ≤ q) a := fun a h => Nat.not_le.mpr h
  obtain ⟨adK, adV, hS7, hev⟩ := vk_Sof (args := #[Value.ref b]) (s := s) (N := 7) (tm := tmS) (len := sLen) (byt := sByt) (A := fun q => s.heap.size ≤ q) (by decide +kernel) (fun i hi => fl _ (f_1 i hi)) (fun i hi => fl _ (f_2 i hi)) (fun i hi => fl _ (f_3 i hi)) (fun i hi => fl _ (f_4 i hi)) (fun i hi j hj => fl _ (f_5 i hi j hj)) (fun i j hi hj hne => (f_6 i hi j hj hne).imp (fl _) (fl _)) hA
  obtain ⟨t0, ht0, hT0⟩ := va_Tof (args := #[Value.ref b]) (s := s) (tm := .static "FireApologies" "ABOVE" "[I") (ty := .int) (N := 7) (f := fun j => .int (tAbove.getD j 0)) (A := fun q => s.heap.size ≤ q) (by decide) (fl _ f_8) (va_eqt (fl _ f_9)) (fun j hj => va_eqt (fl _ (f_7 j hj))) hA
  have hZ0 := va_Zref (hts _ (tb_t (w := .laysStatic "FireApologies" "ABOVE" "[I") 827 (by decide +kernel))) (hts _ (tb_t (w := .initialized "FireApologies") 1 (by decide +kernel))) ht0 hA
  have hZ1 := va_Zof (hts _ (tb_t (w := .laysStatic "java/lang/String" "COMPACT_STRINGS" "Z") 465 (by decide +kernel))) (hts _ (tb_t (w := .initialized "java/lang/String") 18 (by decide +kernel))) (va_eqt (fl _ f_10)) hA
  obtain ⟨v5, hv5, hr5⟩ := Cond.isRef_spec (fl _ f_11)
  have hZ5 := va_Zof (v := v5) (hts _ (tb_t (w := .laysStatic "jdk/internal/util/Preconditions" "SIOOBE_FORMATTER" "Ljava/util/function/BiFunction;") 481 (by decide +kernel))) (hts _ (tb_t (w := .initialized "jdk/internal/util/Preconditions") 20 (by decide +kernel))) hv5 hA
  obtain ⟨t5, h5⟩ : ∃ t5 : Nat, va_Z "jdk/internal/util/Preconditions" "SIOOBE_FORMATTER" "Ljava/util/function/BiFunction;" .null (fun q => s.heap.size ≤ q) s s.heap ∨ va_Z "jdk/internal/util/Preconditions" "SIOOBE_FORMATTER" "Ljava/util/function/BiFunction;" (.ref t5) (fun q => s.heap.size ≤ q) s s.heap := by
    cases v5 with
    | null => exact ⟨0, Or.inl hZ5⟩
    | ref a => exact ⟨a, Or.inr hZ5⟩
    | _ => exact absurd hr5 (by simp [Value.isRef])
  refine ⟨fun k => if k = 3000 then b else if k = 2000 then t0 else if k = 2500 then t5 else if k < 1100 then adK (k - 1000) else adV (k - 1100), rfl, ?_⟩
  have eK : (fun i => (fun k => if k = 3000 then b else if k = 2000 then t0 else if k = 2500 then t5 else if k < 1100 then adK (k - 1000) else adV (k - 1100)) (1000 + i)) = fun i => (if 1000 + i = 3000 then b else if 1000 + i = 2000 then t0 else if 1000 + i = 2500 then t5 else if 1000 + i < 1100 then adK (1000 + i - 1000) else adV (1000 + i - 1100)) := rfl
  have kK : ∀ i, i < 7 → (if 1000 + i = 3000 then b else if 1000 + i = 2000 then t0 else if 1000 + i = 2500 then t5 else if 1000 + i < 1100 then adK (1000 + i - 1000) else adV (1000 + i - 1100)) = adK i := fun i hi => by
    rw [if_neg (by omega), if_neg (by omega), if_neg (by omega), if_pos (by omega), Nat.add_sub_cancel_left]
  have kV : ∀ i, i < 7 → (if 1100 + i = 3000 then b else if 1100 + i = 2000 then t0 else if 1100 + i = 2500 then t5 else if 1100 + i < 1100 then adK (1100 + i - 1000) else adV (1100 + i - 1100)) = adV i := fun i hi => by
    rw [if_neg (by omega), if_neg (by omega), if_neg (by omega), if_neg (by omega), Nat.add_sub_cancel_left]
  refine ⟨⟨fun i hi => ?_, fun i j hi hj he => ?_⟩, ?_, hZ0, hT0, hZ1, ?_, ?_, ?_, ?_, ?_, h5⟩
  · obtain ⟨g1, g2, g3, g4⟩ := hS7.1 i hi
    have e1 := kK i hi
    have e2 := kV i hi
    dsimp only
    rw [e1, e2]
    exact ⟨g1, g2, g3, g4⟩
  · have e1 := kK i hi
    have e2 := kK j hj
    dsimp only at he
    rw [e1, e2] at he
    exact hS7.2 i j hi hj he
  · exact (List.forall_mem_cons.mpr ⟨vk_R.of (hts _ (tb_t 451 (by decide +kernel))) (hev 0 (by decide)), (List.forall_mem_cons.mpr ⟨vk_R.of (hts _ (tb_t 508 (by decide +kernel))) (hev 1 (by decide)), (List.forall_mem_cons.mpr ⟨vk_R.of (hts _ (tb_t 513 (by decide +kernel))) (hev 2 (by decide)), (List.forall_mem_cons.mpr ⟨vk_R.of (hts _ (tb_t 530 (by decide +kernel))) (hev 3 (by decide)), (List.forall_mem_cons.mpr ⟨vk_R.of (hts _ (tb_t 1142 (by decide +kernel))) (va_eqR (fl (Cond.eq (.string "FireApologies$Reader" 55) (.string "FireApologiesModel" 208)) (by decide +kernel)) (hev 0 (by decide))), (List.forall_mem_cons.mpr ⟨vk_R.of (hts _ (tb_t 1153 (by decide +kernel))) (hev 4 (by decide)), (List.forall_mem_cons.mpr ⟨vk_R.of (hts _ (tb_t 1154 (by decide +kernel))) (hev 5 (by decide)), (List.forall_mem_cons.mpr ⟨vk_R.of (hts _ (tb_t 1187 (by decide +kernel))) (va_eqR (fl (Cond.eq (.string "FireApologies$Reader" 84) (.string "FireApologiesModel" 177)) (by decide +kernel)) (hev 3 (by decide))), (List.forall_mem_cons.mpr ⟨vk_R.of (hts _ (tb_t 1189 (by decide +kernel))) (hev 6 (by decide)), (fun q h => absurd h List.not_mem_nil)⟩)⟩)⟩)⟩)⟩)⟩)⟩)⟩)⟩)
  · exact (List.forall_mem_cons.mpr ⟨va_Nw.of rfl (hts _ (tb_t 33 (by decide +kernel))), (List.forall_mem_cons.mpr ⟨va_Nw.of rfl (hts _ (tb_t 40 (by decide +kernel))), (List.forall_mem_cons.mpr ⟨va_Nw.of rfl (hts _ (tb_t 47 (by decide +kernel))), (List.forall_mem_cons.mpr ⟨va_Nw.of rfl (hts _ (tb_t 50 (by decide +kernel))), (List.forall_mem_cons.mpr ⟨va_Nw.of rfl (hts _ (tb_t 54 (by decide +kernel))), (List.forall_mem_cons.mpr ⟨va_Nw.of rfl (hts _ (tb_t 57 (by decide +kernel))), (List.forall_mem_cons.mpr ⟨va_Nw.of rfl (hts _ (tb_t 61 (by decide +kernel))), (List.forall_mem_cons.mpr ⟨va_Nw.of rfl (hts _ (tb_t 64 (by decide +kernel))), (List.forall_mem_cons.mpr ⟨va_Nw.of rfl (hts _ (tb_t 68 (by decide +kernel))), (List.forall_mem_cons.mpr ⟨va_Nw.of rfl (hts _ (tb_t 71 (by decide +kernel))), (List.forall_mem_cons.mpr ⟨va_Nw.of rfl (hts _ (tb_t 75 (by decide +kernel))), (List.forall_mem_cons.mpr ⟨va_Nw.of rfl (hts _ (tb_t 78 (by decide +kernel))), (List.forall_mem_cons.mpr ⟨va_Nw.of rfl (hts _ (tb_t 82 (by decide +kernel))), (List.forall_mem_cons.mpr ⟨va_Nw.of rfl (hts _ (tb_t 85 (by decide +kernel))), (List.forall_mem_cons.mpr ⟨va_Nw.of rfl (hts _ (tb_t 163 (by decide +kernel))), (List.forall_mem_cons.mpr ⟨va_Nw.of rfl (hts _ (tb_t 194 (by decide +kernel))), (List.forall_mem_cons.mpr ⟨va_Nw.of rfl (hts _ (tb_t 276 (by decide +kernel))), (fun q h => absurd h List.not_mem_nil)⟩)⟩)⟩)⟩)⟩)⟩)⟩)⟩)⟩)⟩)⟩)⟩)⟩)⟩)⟩)⟩)⟩)
  · exact (List.forall_mem_cons.mpr ⟨va_Nw.of rfl (hts _ (tb_t 1329 (by decide +kernel))), (List.forall_mem_cons.mpr ⟨va_Nw.of rfl (hts _ (tb_t 1330 (by decide +kernel))), (List.forall_mem_cons.mpr ⟨va_Nw.of rfl (hts _ (tb_t 1331 (by decide +kernel))), (List.forall_mem_cons.mpr ⟨va_Nw.of rfl (hts _ (tb_t 1332 (by decide +kernel))), (List.forall_mem_cons.mpr ⟨va_Nw.of rfl (hts _ (tb_t 1333 (by decide +kernel))), (List.forall_mem_cons.mpr ⟨va_Nw.of rfl (hts _ (tb_t 1334 (by decide +kernel))), (fun q h => absurd h List.not_mem_nil)⟩)⟩)⟩)⟩)⟩)⟩)
  · exact va_AO.of (hts _ (tb_t 38 (by decide +kernel)))
  · exact hts _ (tb_t (w := .arrayOver (.array .int)) 88 (by decide +kernel))
  · exact hts _ (tb_t (w := .arrayOver (.array .long)) 218 (by decide +kernel))
theorem K_0 {b : Nat} {s : State} (hts : ∀ w ∈ lw_tbl, w.before #[Value.ref b] s = true) : ∃ (dC : Nat → ClassId) (dI : Nat → Nat → Nat) (tc : FieldType → ClassId), va_K (dC, dI) CL (tyl tc) s := by
  have htb : ∀ w ∈ TB, w.before #[Value.ref b] s = true := fun w h => hts w (TB_in h)
  have one : ∀ {own : String} {idx ci : Nat}, CLn own idx ci → ∃ q : ClassId × (Nat → Nat), ∀ r : vw_C, CL[ci]? = some r → u_Kn s r.1 r.2.1 r.2.2 q.1 q.2 := fun hk => by
    obtain ⟨C, T, N, h1, -, -, h4, -, h6, -⟩ := hk
    obtain ⟨c, i, h⟩ := u_known (C := C) (T := T) (N := N) (n := N) htb h6 (htb _ h4)
    exact ⟨(c, i), fun r hr => by rw [h1] at hr; cases hr; exact h⟩
  have hk : ∀ ci : Nat, ∃ q : ClassId × (Nat → Nat), ∀ r : vw_C, CL[ci]? = some r → u_Kn s r.1 r.2.1 r.2.2 q.1 q.2 := fun ci => by
    match ci with
    | 0 => exact one cn_X11_31
    | 1 => exact one cn_X10_21
    | 2 => exact one cn_X10_12
    | 3 => exact one cn_X10_18
    | 4 => exact one cn_X11_24
    | 5 => exact one cn_X10_9
    | 6 => exact one cn_X4_40
    | 7 => exact one cn_X10_27
    | 8 => exact one cn_X10_24
    | 9 => exact one cn_X10_15
    | 10 => exact one cn_X11_11
    | 11 => exact one cn_L_7
    | 12 => exact one cn_L_10
    | k + 13 => exact ⟨(0, fun _ => 0), fun r hr => by simp [CL] at hr⟩
  obtain ⟨dq, hdq⟩ := Classical.axiomOfChoice hk
  have prim : ∀ {ty : FieldType}, Cond.arrayClass ty ∈ TB → (∀ C, ty ≠ .object C) → ∃ cA : ClassId, ArrOfT s cA ty ∧ va_RA s cA ty := fun hw hn => by
    obtain ⟨cA, kA, comp, h1, h2, h3⟩ := Cond.arrayClass_spec (htb _ hw)
    refine ⟨cA, fun n z => ⟨fun k h => (by cases h), kA, h2, comp, h3⟩, ?_⟩
    unfold va_RA
    split
    · exact absurd rfl (hn _)
    · exact h1
  have arr : ∀ {ty : FieldType}, Cond.arrayOver (.array ty) ∈ lw_tbl → ∃ cA : ClassId, ArrOfT s cA (.array ty) ∧ va_RA s cA (.array ty) := fun hw => by
    obtain ⟨comp, cA, kA, h2, h3, h4⟩ := ao_arr (hts _ hw)
    exact ⟨cA, fun n z => ⟨fun k h => (by cases h), kA, h2, comp, h3⟩, h4⟩
  obtain ⟨cR, hR⟩ : ∃ cA : ClassId, ArrOfT s cA (.object "FireApologies$Rocket") ∧ va_RA s cA (.object "FireApologies$Rocket") := by
    obtain ⟨comp, cA, kA, h1, -, h2, h3, h4⟩ := Cond.arrayOver_spec (hts _ (tb_t (w := .arrayOver (.object "FireApologies$Rocket")) 38 (by decide +kernel)))
    exact ⟨cA, fun n z => ⟨fun k h => (by cases h), kA, h2, comp, h3⟩, kA, comp, h2, h3, h1, h4⟩
  obtain ⟨c0, h0⟩ := prim aw_int (fun _ h => by cases h)
  obtain ⟨c1, h1⟩ := prim aw_long (fun _ h => by cases h)
  obtain ⟨c2, h2⟩ := prim aw_byte (fun _ h => by cases h)
  obtain ⟨c3, h3⟩ := prim aw_boolean (fun _ h => by cases h)
  obtain ⟨c5, h5⟩ := arr (ty := .int) (tb_t 88 (by decide +kernel))
  obtain ⟨c6, h6⟩ := arr (ty := .long) (tb_t 218 (by decide +kernel))
  refine ⟨fun ci => (dq ci).1, fun ci => (dq ci).2, fun ty => match ty with | .int => c0 | .long => c1 | .byte => c2 | .boolean => c3 | .array .int => c5 | .array .long => c6 | _ => cR, fun ci r hr => hdq ci r hr, fun k q hq => ?_⟩
  match k with
  | 0 => cases hq; exact h0
  | 1 => cases hq; exact h1
  | 2 => cases hq; exact h2
  | 3 => cases hq; exact h3
  | 4 => cases hq; exact hR
  | 5 => cases hq; exact h5
  | 6 => cases hq; exact h6
  | k + 7 => simp [tyl] at hq
