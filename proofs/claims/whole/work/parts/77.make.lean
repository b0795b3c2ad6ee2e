-- ===== the constructors: the class =====
def r9 : List (Nat × Nat × Nat) → Nat → Nat → Option Nat
  | [], _, _ => none
  | q :: t, k, i => if k = q.1 ∧ i = q.2.1 then some q.2.2 else r9 t k i
/-- the first n places are made, and these references set -/
def Zc (n : Nat) (rf : List (Nat × Nat × Nat)) : Zt := (n, fun k => if k < n then SH0 k else none, r9 rf)
def rb (rf : List (Nat × Nat × Nat)) (n : Nat) : Bool := rf.all (fun q => Nat.blt q.1 n)
theorem r9_no {n : Nat} : ∀ (rf : List (Nat × Nat × Nat)), rb rf n = true → ∀ k i, n ≤ k → r9 rf k i = none
  | [], _, _, _, _ => rfl
  | q :: t, h, k, i, hk => by
    unfold rb at h
    rw [List.all_cons, Bool.and_eq_true] at h
    have h1 : q.1 < n := Nat.le_of_ble_eq_true h.1
    unfold r9
    rw [if_neg (by omega)]
    exact r9_no t h.2 k i hk
theorem Zc_n {n : Nat} {rf : List (Nat × Nat × Nat)} {x : Sh} (hs : SH0 n = some x) (hr : rb rf n = true) : Zn (Zc n rf) x = Zc (n + 1) rf := by
  have e1 : upd1 (fun k => if k < n then SH0 k else none) n (some x) = fun k => if k < n + 1 then SH0 k else none := funext fun k => by
    by_cases e : k = n
    · subst e; rw [upd1_s, if_pos (Nat.lt_succ_self k), hs]
    · rw [upd1_n e]
      by_cases c : k < n
      · rw [if_pos c, if_pos (by omega)]
      · rw [if_neg c, if_neg (by omega)]
  have e2 : upr (r9 rf) n (fun _ => none) = r9 rf := funext fun k => by
    by_cases e : k = n
    · subst e; rw [upr_s]; exact funext fun i => (r9_no rf hr k i (Nat.le_refl _)).symm
    · rw [upr_n e]
  show (n + 1, upd1 (fun k => if k < n then SH0 k else none) n (some x), upr (r9 rf) n (fun _ => none)) = _
  rw [e1, e2]
  rfl
theorem r9_up {rf : List (Nat × Nat × Nat)} {k i j : Nat} : up2 (r9 rf) k i (some j) = r9 ((k, i, j) :: rf) := funext fun a => funext fun b => by
  unfold up2
  rw [r9]
  by_cases e : a = k
  · by_cases e2 : b = i
    · rw [if_pos e, if_pos e2, if_pos ⟨e, e2⟩]
    · rw [if_pos e, if_neg e2, if_neg (fun z => e2 z.2)]
  · rw [if_neg e, if_neg (fun z => e z.1)]
theorem upr_z {α : Type} {G : Nat → Nat → α} {n : Nat} {z : α} (h : ∀ i, G n i = z) : upr G n (fun _ => z) = G := funext fun k => by
  by_cases e : k = n
  · subst e; rw [upr_s]; exact funext fun i => (h i).symm
  · rw [upr_n e]
theorem Gm_z {α : Type} {G : Nat → Nat → α} {N n : Nat} {z : α} (h : ∀ k i, N ≤ k → k < N + 1 + n → G k i = z) : Gm G N n z = G := funext fun k => by
  unfold Gm
  by_cases e : N ≤ k ∧ k < N + 1 + n
  · rw [if_pos e]; exact funext fun i => (h k i e.1 e.2).symm
  · rw [if_neg e]
theorem ax_na {X : Option (Nat × (Nat → Int32))} {M : Mt} {d mc ms cu su pc : Nat} {lv : Lv} {st : List Value} {G : Gt} {L : Lt} {Q : Qt} {n n2 : Nat} {rf : List (Nat × Nat × Nat)} {atype : ArrayType} {ty : FieldType} {v : Int32} {N' t0 : Nat} (hd : decode M.2.1 pc = .ok (.newarray atype, 2)) (hty : newarray.typeOf atype = ty) (ht : isI ty = true ∨ ty = .long) (h0 : ∀ tc : FieldType → ClassId, (tyl tc)[t0]? = some (tc ty, ty)) (hw : Cond.arrayClass ty ∈ TB) (hn0 : v = nI N') (hb : N' * componentBytes ty ≤ 536870912) (hb2 : N' < 2147483648) (hn2 : n2 = n + 1) (hN : n + 1 ≤ 1000) (hc1 : cu + 1 ≤ mc) (hc2 : su + N' ≤ ms) (hsh : SH0 n = some (.inr (ty, N'))) (hrf : rb rf n = true) (hG : ∀ i, G n i = 0) (hL : ∀ i, L n i = 0)
    (kk : AX X M d mc ms (cu + 1) (su + N') (pc + 2) lv (.ref n :: st) (Zc n2 rf) G L Q) : AX X M d mc ms cu su pc lv (.int v :: st) (Zc n rf) G L Q := by
  subst hn2
  refine ax_newarr hd hty ht h0 hw hn0 hb hb2 hN hc1 hc2 ?_
  show AX X M d mc ms (cu + 1) (su + N') (pc + 2) lv (.ref n :: st) (Zn (Zc n rf) (.inr (ty, N'))) (upr G n (fun _ => 0)) (upr L n (fun _ => 0)) Q
  rw [Zc_n hsh hrf, upr_z hG, upr_z hL]
  exact kk
theorem ax_nr {X : Option (Nat × (Nat → Int32))} {M : Mt} {d mc ms cu su pc : Nat} {lv : Lv} {st : List Value} {G : Gt} {L : Lt} {Q : Qt} {n n2 : Nat} {rf : List (Nat × Nat × Nat)} {idx : Nat} {v : Int32} {N' : Nat} (hd : decode M.2.1 pc = .ok (.anewarray idx, 3)) (hw : Cond.classLink M.1.cls idx "FireApologies$Rocket" ∈ TB) (hn0 : v = nI N') (hb : N' * 4 ≤ 536870912) (hn2 : n2 = n + 1) (hN : n + 1 ≤ 1000) (hc1 : cu + 1 ≤ mc) (hc2 : su + N' ≤ ms) (hsh : SH0 n = some (.inr (.object "FireApologies$Rocket", N'))) (hrf : rb rf n = true) (hG : ∀ i, G n i = 0) (hL : ∀ i, L n i = 0)
    (kk : AX X M d mc ms (cu + 1) (su + N') (pc + 3) lv (.ref n :: st) (Zc n2 rf) G L Q) : AX X M d mc ms cu su pc lv (.int v :: st) (Zc n rf) G L Q := by
  subst hn2
  refine ax_newref hd hw hn0 hb hN hc1 hc2 ?_
  show AX X M d mc ms (cu + 1) (su + N') (pc + 3) lv (.ref n :: st) (Zn (Zc n rf) (.inr (.object "FireApologies$Rocket", N'))) (upr G n (fun _ => 0)) (upr L n (fun _ => 0)) Q
  rw [Zc_n hsh hrf, upr_z hG, upr_z hL]
  exact kk
theorem ax_no {X : Option (Nat × (Nat → Int32))} {M : Mt} {d mc ms cu su pc : Nat} {lv : Lv} {st : List Value} {G : Gt} {L : Lt} {Q : Qt} {n n2 : Nat} {rf : List (Nat × Nat × Nat)} {idx ci : Nat} (hd : decode M.2.1 pc = .ok (.new idx, 3)) (hk : CLn M.1.cls idx ci) (hci : ci < 13) (hn2 : n2 = n + 1) (hN : n + 1 ≤ 1000) (hc1 : cu + 1 ≤ mc) (hc2 : su + nF ci ≤ ms) (hsh : SH0 n = some (.inl ci)) (hrf : rb rf n = true) (hG : ∀ i, G n i = 0) (hL : ∀ i, L n i = 0)
    (kk : AX X M d mc ms (cu + 1) (su + nF ci) (pc + 3) lv (.ref n :: st) (Zc n2 rf) G L Q) : AX X M d mc ms cu su pc lv st (Zc n rf) G L Q := by
  subst hn2
  refine ax_new hd hk hN hci hc1 hc2 ?_
  show AX X M d mc ms (cu + 1) (su + nF ci) (pc + 3) lv (.ref n :: st) (Zn (Zc n rf) (.inl ci)) (upr G n (fun _ => 0)) (upr L n (fun _ => 0)) Q
  rw [Zc_n hsh hrf, upr_z hG, upr_z hL]
  exact kk
theorem ax_pr {X : Option (Nat × (Nat → Int32))} {M : Mt} {d mc ms cu su pc : Nat} {lv : Lv} {st : List Value} {G : Gt} {L : Lt} {Q : Qt} {n : Nat} {rf : List (Nat × Nat × Nat)} {idx ci i k j : Nat} (hd : decode M.2.1 pc = .ok (.putfield idx, 3)) (hf : FL M.1.cls idx ci i) (hfin : (∃ C T N, CL[ci]? = some (C, T, N) ∧ (T i).2.2.2 = false) ∨ (FLp ci i true M.1.cls ∧ M.1.name = "<init>")) (ht : isR (tyF ci i) = true) (hj : j < n) (hk : k < n) (hz : SH0 k = some (.inl ci)) (kk : AX X M d mc ms cu su (pc + 3) lv st (Zc n ((k, i, j) :: rf)) G L Q) : AX X M d mc ms cu su pc lv (.ref j :: .ref k :: st) (Zc n rf) G L Q := by
  refine ax_putO (o := some j) hd hf hfin ht (fun a ha => by cases ha; exact hj) (show (if k < n then SH0 k else none) = _ from by rw [if_pos hk]; exact hz) ?_
  show AX X M d mc ms cu su (pc + 3) lv st (n, (fun k => if k < n then SH0 k else none), up2 (r9 rf) k i (some j)) G L Q
  rw [r9_up]
  exact kk
theorem ax_ar {X : Option (Nat × (Nat → Int32))} {M : Mt} {d mc ms cu su pc : Nat} {lv : Lv} {st : List Value} {G : Gt} {L : Lt} {Q : Qt} {n : Nat} {rf : List (Nat × Nat × Nat)} {k N j q ci : Nat} {i : Int32} (hd : decode M.2.1 pc = .ok (.aastore, 1)) (hk : k < n) (hz : SH0 k = some (.inr (.object "FireApologies$Rocket", N))) (hi : i = nI j) (hj : j < N) (hnn : N < 2147483648) (hqn : q < n) (hq : SH0 q = some (.inl ci)) (hcs : ∃ r : vw_C, CL[ci]? = some r ∧ (r.1 = "FireApologies$Rocket" ∨ (r.1, "FireApologies$Rocket") ∈ NWc)) (kk : AX X M d mc ms cu su (pc + 1) lv st (Zc n ((k, j, q) :: rf)) G L Q) : AX X M d mc ms cu su pc lv (.ref q :: .int i :: .ref k :: st) (Zc n rf) G L Q := by
  refine ax_aastR hd (show (if k < n then SH0 k else none) = _ from by rw [if_pos hk]; exact hz) hi hj hnn (show (if q < n then SH0 q else none) = _ from by rw [if_pos hqn]; exact hq) hcs ?_
  show AX X M d mc ms cu su (pc + 1) lv st (n, (fun k => if k < n then SH0 k else none), up2 (r9 rf) k j (some q)) G L Q
  rw [r9_up]
  exact kk
def r6 (n : Nat) (rf : List (Nat × Nat × Nat)) : List (Nat × Nat × Nat) := (n, 0, n + 1) :: (n, 1, n + 2) :: (n, 2, n + 3) :: (n, 3, n + 4) :: (n, 4, n + 5) :: (n, 5, n + 6) :: rf
theorem Zc_m {n K : Nat} {rf : List (Nat × Nat × Nat)} {ty : FieldType} (hs : SH0 n = some (.inr (.array ty, 6))) (hs2 : ∀ j, j < 6 → SH0 (n + 1 + j) = some (.inr (ty, K))) (hr : rb rf n = true) : Zm (Zc n rf) ty 6 K = Zc (n + 7) (r6 n rf) := by
  have e1 : (fun a => if a = n then some (Sum.inr (FieldType.array ty, 6)) else if n < a ∧ a < n + 1 + 6 then some (Sum.inr (ty, K)) else (if a < n then SH0 a else none)) = fun k => if k < n + 7 then SH0 k else none := funext fun k => by
    by_cases e : k = n
    · subst e; rw [if_pos rfl, if_pos (by omega), hs]
    rw [if_neg e]
    by_cases c : n < k ∧ k < n + 1 + 6
    · rw [if_pos c, if_pos (by omega), show k = n + 1 + (k - (n + 1)) from by omega, hs2 _ (by omega)]
    rw [if_neg c]
    by_cases c2 : k < n
    · rw [if_pos c2, if_pos (by omega)]
    · rw [if_neg c2, if_neg (by omega)]
  have e2 : (fun a i => if a = n then (if i < 6 then some (n + 1 + i) else none) else if n < a ∧ a < n + 1 + 6 then none else r9 rf a i) = r9 (r6 n rf) := funext fun k => funext fun i => by
    by_cases e : k = n
    · subst e
      rw [if_pos rfl]
      unfold r6
      by_cases c : i < 6
      · rw [if_pos c]
        rcases (show i = 0 ∨ i = 1 ∨ i = 2 ∨ i = 3 ∨ i = 4 ∨ i = 5 by omega) with rfl | rfl | rfl | rfl | rfl | rfl <;> simp [r9]
      · rw [if_neg c]
        simp only [r9]
        rw [if_neg (by omega), if_neg (by omega), if_neg (by omega), if_neg (by omega), if_neg (by omega), if_neg (by omega), r9_no rf hr k i (Nat.le_refl _)]
    · rw [if_neg e]
      have e9 : r9 (r6 n rf) k i = r9 rf k i := by
        unfold r6
        simp only [r9]
        rw [if_neg (fun z => e z.1), if_neg (fun z => e z.1), if_neg (fun z => e z.1), if_neg (fun z => e z.1), if_neg (fun z => e z.1), if_neg (fun z => e z.1)]
      rw [e9]
      by_cases c : n < k ∧ k < n + 1 + 6
      · rw [if_pos c, r9_no rf hr k i (by omega)]
      · rw [if_neg c]
  show (n + 1 + 6, (fun a => if a = n then some (Sum.inr (FieldType.array ty, 6)) else if n < a ∧ a < n + 1 + 6 then some (Sum.inr (ty, K)) else (if a < n then SH0 a else none)), (fun a i => if a = n then (if i < 6 then some (n + 1 + i) else none) else if n < a ∧ a < n + 1 + 6 then none else r9 rf a i)) = _
  rw [e1, e2]
  rfl
theorem ax_nm {X : Option (Nat × (Nat → Int32))} {M : Mt} {d mc ms cu su pc : Nat} {lv : Lv} {st : List Value} {G : Gt} {L : Lt} {Q : Qt} {n n2 : Nat} {rf : List (Nat × Nat × Nat)} {idx : Nat} {ty : FieldType} {v k : Int32} {K' t0 t1 : Nat} (hd : decode M.2.1 pc = .ok (.multianewarray idx 2, 4)) (hw : Cond.classLink M.1.cls idx ("[" ++ (FieldType.array ty).toString) ∈ TB) (hw2 : Cond.arrayClass ty ∈ TB) (ht : (ty = .int ∧ t0 = 5 ∧ t1 = 0) ∨ (ty = .long ∧ t0 = 6 ∧ t1 = 1)) (hn0 : v = nI 6) (hk0 : k = nI K') (hb2 : K' ≤ 1000) (hn2 : n2 = n + 7) (hN : n + 7 ≤ 1000) (hc1 : cu + 7 ≤ mc) (hc2 : su + (6 + 6 * K') ≤ ms) (hsh : SH0 n = some (.inr (.array ty, 6))) (hsh2 : ∀ j, j < 6 → SH0 (n + 1 + j) = some (.inr (ty, K'))) (hrf : rb rf n = true) (hG : ∀ k i, n ≤ k → k < n + 7 → G k i = 0) (hL : ∀ k i, n ≤ k → k < n + 7 → L k i = 0)
    (kk : AX X M d mc ms (cu + 1 + 6) (su + 6 + 6 * K') (pc + 4) lv (.ref n :: st) (Zc n2 (r6 n rf)) G L Q) : AX X M d mc ms cu su pc lv (.int k :: .int v :: st) (Zc n rf) G L Q := by
  subst hn2
  refine ax_mna (N' := 6) hd hw hw2 ht hn0 hk0 (by decide) hb2 hN hc1 hc2 ?_
  show AX X M d mc ms (cu + 1 + 6) (su + 6 + 6 * K') (pc + 4) lv (.ref n :: st) (Zm (Zc n rf) ty 6 K') (Gm G n 6 0) (Gm L n 6 0) Q
  rw [Zc_m hsh hsh2 hrf, Gm_z (fun k i a b => hG k i a (by omega)), Gm_z (fun k i a b => hL k i a (by omega))]
  exact kk
theorem Zc_s {n k : Nat} {rf : List (Nat × Nat × Nat)} {x : Sh} (hk : k < n) (h : SH0 k = some x) : (Zc n rf).2.1 k = some x := by
  show (if k < n then SH0 k else none) = _
  rw [if_pos hk]; exact h
def G00 : Gt := fun _ _ => 0
def L00 : Lt := fun _ _ => 0
theorem c_fill6 {Z : Zt} {G : Gt} {L : Lt} (hz : Z.2.1 7 = some (.inr (.int, 6))) : AC mJ7_fill_53178 1 0 0 [.ref 7, .int (-1)] Z G L (DQ none Z (up2 (up2 (up2 (up2 (up2 (up2 G 7 0 (-1)) 7 1 (-1)) 7 2 (-1)) 7 3 (-1)) 7 4 (-1)) 7 5 (-1)) L) := by
  refine AC.introF (by decide +kernel) (Nat.le_of_ble_eq_true rfl) ?_
  refine ax_lv [(0, .ref 7), (1, .int (-1))] ⟨rfl, rfl, trivial⟩ ?_
  refine ax_iconst (v := 0) dJ7_fill_53178_0 (by decide) ?_
  refine ax_istore_n (i := 2) dJ7_fill_53178_1 rfl (by decide) rfl ?_
  refine ax_aload_n (i := 0) dJ7_fill_53178_2 rfl rfl ?_
  refine ax_alen (t0 := 0) (v := 6) dJ7_fill_53178_3 hz (fun _ => rfl) rfl ?_
  refine ax_istore_n (i := 3) dJ7_fill_53178_4 rfl (by decide) rfl ?_
  refine ax_iload_n (i := 2) dJ7_fill_53178_5 rfl rfl ?_
  refine ax_iload_n (i := 3) dJ7_fill_53178_6 rfl rfl ?_
  refine ax_icmp_ge (tgt := 20) dJ7_fill_53178_7 (by decide) (fun c => absurd c (by decide)) (fun _ => ?_)
  refine ax_aload_n (i := 0) dJ7_fill_53178_10 rfl rfl ?_
  refine ax_iload_n (i := 2) dJ7_fill_53178_11 rfl rfl ?_
  refine ax_iload_n (i := 1) dJ7_fill_53178_12 rfl rfl ?_
  refine ax_iastN 0 dJ7_fill_53178_13 hz rfl (by decide) (by decide) ?_
  refine ax_iinc (v := 1) dJ7_fill_53178_14 rfl rfl (by decide) rfl ?_
  refine ax_goto (tgt := 5) dJ7_fill_53178_17 (by decide) ?_
  refine ax_iload_n (i := 2) dJ7_fill_53178_5 rfl rfl ?_
  refine ax_iload_n (i := 3) dJ7_fill_53178_6 rfl rfl ?_
  refine ax_icmp_ge (tgt := 20) dJ7_fill_53178_7 (by decide) (fun c => absurd c (by decide)) (fun _ => ?_)
  refine ax_aload_n (i := 0) dJ7_fill_53178_10 rfl rfl ?_
  refine ax_iload_n (i := 2) dJ7_fill_53178_11 rfl rfl ?_
  refine ax_iload_n (i := 1) dJ7_fill_53178_12 rfl rfl ?_
  refine ax_iastN 1 dJ7_fill_53178_13 hz rfl (by decide) (by decide) ?_
  refine ax_iinc (v := 2) dJ7_fill_53178_14 rfl rfl (by decide) rfl ?_
  refine ax_goto (tgt := 5) dJ7_fill_53178_17 (by decide) ?_
  refine ax_iload_n (i := 2) dJ7_fill_53178_5 rfl rfl ?_
  refine ax_iload_n (i := 3) dJ7_fill_53178_6 rfl rfl ?_
  refine ax_icmp_ge (tgt := 20) dJ7_fill_53178_7 (by decide) (fun c => absurd c (by decide)) (fun _ => ?_)
  refine ax_aload_n (i := 0) dJ7_fill_53178_10 rfl rfl ?_
  refine ax_iload_n (i := 2) dJ7_fill_53178_11 rfl rfl ?_
  refine ax_iload_n (i := 1) dJ7_fill_53178_12 rfl rfl ?_
  refine ax_iastN 2 dJ7_fill_53178_13 hz rfl (by decide) (by decide) ?_
  refine ax_iinc (v := 3) dJ7_fill_53178_14 rfl rfl (by decide) rfl ?_
  refine ax_goto (tgt := 5) dJ7_fill_53178_17 (by decide) ?_
  refine ax_iload_n (i := 2) dJ7_fill_53178_5 rfl rfl ?_
  refine ax_iload_n (i := 3) dJ7_fill_53178_6 rfl rfl ?_
  refine ax_icmp_ge (tgt := 20) dJ7_fill_53178_7 (by decide) (fun c => absurd c (by decide)) (fun _ => ?_)
  refine ax_aload_n (i := 0) dJ7_fill_53178_10 rfl rfl ?_
  refine ax_iload_n (i := 2) dJ7_fill_53178_11 rfl rfl ?_
  refine ax_iload_n (i := 1) dJ7_fill_53178_12 rfl rfl ?_
  refine ax_iastN 3 dJ7_fill_53178_13 hz rfl (by decide) (by decide) ?_
  refine ax_iinc (v := 4) dJ7_fill_53178_14 rfl rfl (by decide) rfl ?_
  refine ax_goto (tgt := 5) dJ7_fill_53178_17 (by decide) ?_
  refine ax_iload_n (i := 2) dJ7_fill_53178_5 rfl rfl ?_
  refine ax_iload_n (i := 3) dJ7_fill_53178_6 rfl rfl ?_
  refine ax_icmp_ge (tgt := 20) dJ7_fill_53178_7 (by decide) (fun c => absurd c (by decide)) (fun _ => ?_)
  refine ax_aload_n (i := 0) dJ7_fill_53178_10 rfl rfl ?_
  refine ax_iload_n (i := 2) dJ7_fill_53178_11 rfl rfl ?_
  refine ax_iload_n (i := 1) dJ7_fill_53178_12 rfl rfl ?_
  refine ax_iastN 4 dJ7_fill_53178_13 hz rfl (by decide) (by decide) ?_
  refine ax_iinc (v := 5) dJ7_fill_53178_14 rfl rfl (by decide) rfl ?_
  refine ax_goto (tgt := 5) dJ7_fill_53178_17 (by decide) ?_
  refine ax_iload_n (i := 2) dJ7_fill_53178_5 rfl rfl ?_
  refine ax_iload_n (i := 3) dJ7_fill_53178_6 rfl rfl ?_
  refine ax_icmp_ge (tgt := 20) dJ7_fill_53178_7 (by decide) (fun c => absurd c (by decide)) (fun _ => ?_)
  refine ax_aload_n (i := 0) dJ7_fill_53178_10 rfl rfl ?_
  refine ax_iload_n (i := 2) dJ7_fill_53178_11 rfl rfl ?_
  refine ax_iload_n (i := 1) dJ7_fill_53178_12 rfl rfl ?_
  refine ax_iastN 5 dJ7_fill_53178_13 hz rfl (by decide) (by decide) ?_
  refine ax_iinc (v := 6) dJ7_fill_53178_14 rfl rfl (by decide) rfl ?_
  refine ax_goto (tgt := 5) dJ7_fill_53178_17 (by decide) ?_
  refine ax_iload_n (i := 2) dJ7_fill_53178_5 rfl rfl ?_
  refine ax_iload_n (i := 3) dJ7_fill_53178_6 rfl rfl ?_
  refine ax_icmp_ge (tgt := 20) dJ7_fill_53178_7 (by decide) (fun _ => ?_) (fun c => absurd (by decide) c)
  refine ax_vret dJ7_fill_53178_20 rfl (Nat.le_of_ble_eq_true rfl) (Nat.le_of_ble_eq_true rfl) ?_
  exact ⟨rfl, rfl, rfl, rfl⟩
theorem i_X5 {Z : Zt} {G : Gt} {L : Lt} (k : Nat) : AC mX5_init 1 0 0 [.ref k] Z G L (DQ none Z G L) := by
  refine AC.intro (by decide +kernel) (Nat.le_of_ble_eq_true rfl) ?_
  refine ax_lv [(0, .ref k)] ⟨rfl, trivial⟩ ?_
  refine ax_aload_n (i := 0) dX5_init_0 rfl rfl ?_
  refine ax_objI dX5_init_1 lo_X5_1 oi_inst oi_code (Nat.le_of_ble_eq_true rfl) (Nat.le_of_ble_eq_true rfl) ?_
  refine ax_vret dX5_init_4 rfl (Nat.le_of_ble_eq_true rfl) (Nat.le_of_ble_eq_true rfl) ?_
  exact ⟨rfl, rfl, rfl, rfl⟩
theorem i_X2 {Z : Zt} {G : Gt} {L : Lt} (k : Nat) : AC mX2_init 2 0 0 [.ref k] Z G L (DQ none Z G L) := by
  refine AC.intro (by decide +kernel) (Nat.le_of_ble_eq_true rfl) ?_
  refine ax_lv [(0, .ref k)] ⟨rfl, trivial⟩ ?_
  refine ax_aload_n (i := 0) dX2_init_0 rfl rfl ?_
  refine ax_callIN dX2_init_1 li_X2_3 (i_X5 k) rfl rfl (Nat.le_of_ble_eq_true rfl) (Nat.le_of_ble_eq_true rfl) (Nat.le_of_ble_eq_true rfl) (Nat.le_of_ble_eq_true rfl) ?_
  refine ax_vret dX2_init_4 rfl (Nat.le_of_ble_eq_true rfl) (Nat.le_of_ble_eq_true rfl) ?_
  exact ⟨rfl, rfl, rfl, rfl⟩
theorem i_X9 {Z : Zt} {G : Gt} {L : Lt} (k : Nat) : AC mX9_init 2 0 0 [.ref k] Z G L (DQ none Z G L) := by
  refine AC.intro (by decide +kernel) (Nat.le_of_ble_eq_true rfl) ?_
  refine ax_lv [(0, .ref k)] ⟨rfl, trivial⟩ ?_
  refine ax_aload_n (i := 0) dX9_init_0 rfl rfl ?_
  refine ax_callIN dX9_init_1 li_X9_1 (i_X5 k) rfl rfl (Nat.le_of_ble_eq_true rfl) (Nat.le_of_ble_eq_true rfl) (Nat.le_of_ble_eq_true rfl) (Nat.le_of_ble_eq_true rfl) ?_
  refine ax_vret dX9_init_4 rfl (Nat.le_of_ble_eq_true rfl) (Nat.le_of_ble_eq_true rfl) ?_
  exact ⟨rfl, rfl, rfl, rfl⟩
theorem i_X3 {Z : Zt} {G : Gt} {L : Lt} (k : Nat) : AC mX3_init 2 0 0 [.ref k] Z G L (DQ none Z G L) := by
  refine AC.intro (by decide +kernel) (Nat.le_of_ble_eq_true rfl) ?_
  refine ax_lv [(0, .ref k)] ⟨rfl, trivial⟩ ?_
  refine ax_aload_n (i := 0) dX3_init_0 rfl rfl ?_
  refine ax_callIN dX3_init_1 li_X3_3 (i_X5 k) rfl rfl (Nat.le_of_ble_eq_true rfl) (Nat.le_of_ble_eq_true rfl) (Nat.le_of_ble_eq_true rfl) (Nat.le_of_ble_eq_true rfl) ?_
  refine ax_vret dX3_init_4 rfl (Nat.le_of_ble_eq_true rfl) (Nat.le_of_ble_eq_true rfl) ?_
  exact ⟨rfl, rfl, rfl, rfl⟩
theorem i_X1 {Z : Zt} {G : Gt} {L : Lt} (k : Nat) : AC mX1_init 3 0 0 [.ref k] Z G L (DQ none Z G L) := by
  refine AC.intro (by decide +kernel) (Nat.le_of_ble_eq_true rfl) ?_
  refine ax_lv [(0, .ref k)] ⟨rfl, trivial⟩ ?_
  refine ax_aload_n (i := 0) dX1_init_0 rfl rfl ?_
  refine ax_callIN dX1_init_1 li_X1_3 (i_X2 k) rfl rfl (Nat.le_of_ble_eq_true rfl) (Nat.le_of_ble_eq_true rfl) (Nat.le_of_ble_eq_true rfl) (Nat.le_of_ble_eq_true rfl) ?_
  refine ax_vret dX1_init_4 rfl (Nat.le_of_ble_eq_true rfl) (Nat.le_of_ble_eq_true rfl) ?_
  exact ⟨rfl, rfl, rfl, rfl⟩
theorem i_X8 {Z : Zt} {G : Gt} {L : Lt} (k : Nat) : AC mX8_init 3 0 0 [.ref k] Z G L (DQ none Z G L) := by
  refine AC.intro (by decide +kernel) (Nat.le_of_ble_eq_true rfl) ?_
  refine ax_lv [(0, .ref k)] ⟨rfl, trivial⟩ ?_
  refine ax_aload_n (i := 0) dX8_init_0 rfl rfl ?_
  refine ax_callIN dX8_init_1 li_X8_1 (i_X9 k) rfl rfl (Nat.le_of_ble_eq_true rfl) (Nat.le_of_ble_eq_true rfl) (Nat.le_of_ble_eq_true rfl) (Nat.le_of_ble_eq_true rfl) ?_
  refine ax_vret dX8_init_4 rfl (Nat.le_of_ble_eq_true rfl) (Nat.le_of_ble_eq_true rfl) ?_
  exact ⟨rfl, rfl, rfl, rfl⟩
theorem i_X7 {Z : Zt} {G : Gt} {L : Lt} (k : Nat) : AC mX7_init 3 0 0 [.ref k] Z G L (DQ none Z G L) := by
  refine AC.intro (by decide +kernel) (Nat.le_of_ble_eq_true rfl) ?_
  refine ax_lv [(0, .ref k)] ⟨rfl, trivial⟩ ?_
  refine ax_aload_n (i := 0) dX7_init_0 rfl rfl ?_
  refine ax_callIN dX7_init_1 li_X7_3 (i_X3 k) rfl rfl (Nat.le_of_ble_eq_true rfl) (Nat.le_of_ble_eq_true rfl) (Nat.le_of_ble_eq_true rfl) (Nat.le_of_ble_eq_true rfl) ?_
  refine ax_vret dX7_init_4 rfl (Nat.le_of_ble_eq_true rfl) (Nat.le_of_ble_eq_true rfl) ?_
  exact ⟨rfl, rfl, rfl, rfl⟩
theorem i_X4_1 : AC mX4_init 1 2 400 [.ref 1] (Zc 2 ([])) G00 L00 (DQ none (Zc 4 ((1, 2, 3) :: (1, 0, 2) :: [])) G00 L00) := by
  refine AC.intro (by decide +kernel) (Nat.le_of_ble_eq_true rfl) ?_
  refine ax_lv [(0, .ref 1)] ⟨rfl, trivial⟩ ?_
  refine ax_aload_n (i := 0) dX4_init_0 rfl rfl ?_
  refine ax_objI dX4_init_1 lo_X4_3 oi_inst oi_code (Nat.le_of_ble_eq_true rfl) (Nat.le_of_ble_eq_true rfl) ?_
  refine ax_aload_n (i := 0) dX4_init_4 rfl rfl ?_
  refine ax_bipush (v := 100) dX4_init_5 (by decide) ?_
  refine ax_na (n := 2) (n2 := 3) (N' := 100) (t0 := 2) dX4_init_7 rfl (Or.inl rfl) (fun _ => rfl) aw_byte rfl (by decide) (by decide) rfl (by decide) (by decide) (by decide) rfl (by decide +kernel) (fun _ => rfl) (fun _ => rfl) ?_
  refine ax_pr dX4_init_9 fl_X4_9 (Or.inr ⟨fp_X4_4_0, rfl⟩) rfl (by decide) (by decide) rfl ?_
  refine ax_aload_n (i := 0) dX4_init_12 rfl rfl ?_
  refine ax_sipush (v := 300) dX4_init_13 (by decide) ?_
  refine ax_na (n := 3) (n2 := 4) (N' := 300) (t0 := 0) dX4_init_16 rfl (Or.inl rfl) (fun _ => rfl) aw_int rfl (by decide) (by decide) rfl (by decide) (by decide) (by decide) rfl (by decide +kernel) (fun _ => rfl) (fun _ => rfl) ?_
  refine ax_pr dX4_init_18 fl_X4_15 (Or.inr ⟨fp_X4_4_2, rfl⟩) rfl (by decide) (by decide) rfl ?_
  refine ax_vret dX4_init_21 rfl (by decide) (by decide) ?_
  exact ⟨rfl, rfl, rfl, rfl⟩
theorem i_X0_4 : AC mX0_init 1 1 20 [.ref 4] (Zc 5 ((0, 4, 1) :: (1, 2, 3) :: (1, 0, 2) :: [])) G00 L00 (DQ none (Zc 6 ((4, 0, 5) :: (0, 4, 1) :: (1, 2, 3) :: (1, 0, 2) :: [])) G00 L00) := by
  refine AC.intro (by decide +kernel) (Nat.le_of_ble_eq_true rfl) ?_
  refine ax_lv [(0, .ref 4)] ⟨rfl, trivial⟩ ?_
  refine ax_aload_n (i := 0) dX0_init_0 rfl rfl ?_
  refine ax_objI dX0_init_1 lo_X0_3 oi_inst oi_code (Nat.le_of_ble_eq_true rfl) (Nat.le_of_ble_eq_true rfl) ?_
  refine ax_aload_n (i := 0) dX0_init_4 rfl rfl ?_
  refine ax_bipush (v := 20) dX0_init_5 (by decide) ?_
  refine ax_na (n := 5) (n2 := 6) (N' := 20) (t0 := 0) dX0_init_7 rfl (Or.inl rfl) (fun _ => rfl) aw_int rfl (by decide) (by decide) rfl (by decide) (by decide) (by decide) rfl (by decide +kernel) (fun _ => rfl) (fun _ => rfl) ?_
  refine ax_pr dX0_init_9 fl_X0_9 (Or.inr ⟨fp_X0_0_0, rfl⟩) rfl (by decide) (by decide) rfl ?_
  refine ax_vret dX0_init_12 rfl (by decide) (by decide) ?_
  exact ⟨rfl, rfl, rfl, rfl⟩
theorem i_X10_24 : AC mX10_init 1 16 125 [.ref 24, .ref 16] (Zc 25 ((0, 3, 16) :: (16, 6, 23) :: (16, 5, 22) :: (16, 4, 21) :: (16, 3, 20) :: (16, 2, 19) :: (16, 1, 18) :: (16, 0, 17) :: (0, 9, 9) :: (9, 0, 10) :: (9, 1, 11) :: (9, 2, 12) :: (9, 3, 13) :: (9, 4, 14) :: (9, 5, 15) :: (0, 8, 8) :: (0, 7, 7) :: (0, 6, 6) :: (0, 5, 4) :: (4, 0, 5) :: (0, 4, 1) :: (1, 2, 3) :: (1, 0, 2) :: [])) G00 L00 (DQ none (Zc 41 ((24, 0, 16) :: (24, 10, 40) :: (24, 9, 39) :: (24, 8, 38) :: (24, 7, 37) :: (24, 6, 36) :: (24, 5, 35) :: (24, 4, 34) :: (24, 3, 33) :: (24, 2, 32) :: (24, 1, 25) :: (25, 0, 26) :: (25, 1, 27) :: (25, 2, 28) :: (25, 3, 29) :: (25, 4, 30) :: (25, 5, 31) :: (0, 3, 16) :: (16, 6, 23) :: (16, 5, 22) :: (16, 4, 21) :: (16, 3, 20) :: (16, 2, 19) :: (16, 1, 18) :: (16, 0, 17) :: (0, 9, 9) :: (9, 0, 10) :: (9, 1, 11) :: (9, 2, 12) :: (9, 3, 13) :: (9, 4, 14) :: (9, 5, 15) :: (0, 8, 8) :: (0, 7, 7) :: (0, 6, 6) :: (0, 5, 4) :: (4, 0, 5) :: (0, 4, 1) :: (1, 2, 3) :: (1, 0, 2) :: [])) G00 L00) := by
  refine AC.intro (by decide +kernel) (Nat.le_of_ble_eq_true rfl) ?_
  refine ax_lv [(0, .ref 24), (1, .ref 16)] ⟨rfl, rfl, trivial⟩ ?_
  refine ax_aload_n (i := 0) dX10_init_0 rfl rfl ?_
  refine ax_objI dX10_init_1 lo_X10_3 oi_inst oi_code (Nat.le_of_ble_eq_true rfl) (Nat.le_of_ble_eq_true rfl) ?_
  refine ax_aload_n (i := 0) dX10_init_4 rfl rfl ?_
  refine ax_bipush (v := 6) dX10_init_5 (by decide) ?_
  refine ax_bipush (v := 10) dX10_init_7 (by decide) ?_
  refine ax_nm (n := 25) (n2 := 32) (ty := .int) (K' := 10) dX10_init_9 cw_X10_9 aw_int (Or.inl ⟨rfl, rfl, rfl⟩) rfl rfl (by decide) rfl (by decide) (by decide) (by decide) rfl (by decide +kernel) (by decide +kernel) (fun _ _ _ _ => rfl) (fun _ _ _ _ => rfl) ?_
  refine ax_pr dX10_init_13 fl_X10_11 (Or.inr ⟨fp_X10_10_1, rfl⟩) rfl (by decide) (by decide) rfl ?_
  refine ax_aload_n (i := 0) dX10_init_16 rfl rfl ?_
  refine ax_iconst (v := 4) dX10_init_17 (by decide) ?_
  refine ax_na (n := 32) (n2 := 33) (N' := 4) (t0 := 0) dX10_init_18 rfl (Or.inl rfl) (fun _ => rfl) aw_int rfl (by decide) (by decide) rfl (by decide) (by decide) (by decide) rfl (by decide +kernel) (fun _ => rfl) (fun _ => rfl) ?_
  refine ax_pr dX10_init_20 fl_X10_16 (Or.inr ⟨fp_X10_10_2, rfl⟩) rfl (by decide) (by decide) rfl ?_
  refine ax_aload_n (i := 0) dX10_init_23 rfl rfl ?_
  refine ax_iconst (v := 4) dX10_init_24 (by decide) ?_
  refine ax_na (n := 33) (n2 := 34) (N' := 4) (t0 := 0) dX10_init_25 rfl (Or.inl rfl) (fun _ => rfl) aw_int rfl (by decide) (by decide) rfl (by decide) (by decide) (by decide) rfl (by decide +kernel) (fun _ => rfl) (fun _ => rfl) ?_
  refine ax_pr dX10_init_27 fl_X10_20 (Or.inr ⟨fp_X10_10_3, rfl⟩) rfl (by decide) (by decide) rfl ?_
  refine ax_aload_n (i := 0) dX10_init_30 rfl rfl ?_
  refine ax_iconst (v := 5) dX10_init_31 (by decide) ?_
  refine ax_na (n := 34) (n2 := 35) (N' := 5) (t0 := 0) dX10_init_32 rfl (Or.inl rfl) (fun _ => rfl) aw_int rfl (by decide) (by decide) rfl (by decide) (by decide) (by decide) rfl (by decide +kernel) (fun _ => rfl) (fun _ => rfl) ?_
  refine ax_pr dX10_init_34 fl_X10_23 (Or.inr ⟨fp_X10_10_4, rfl⟩) rfl (by decide) (by decide) rfl ?_
  refine ax_aload_n (i := 0) dX10_init_37 rfl rfl ?_
  refine ax_iconst (v := 5) dX10_init_38 (by decide) ?_
  refine ax_na (n := 35) (n2 := 36) (N' := 5) (t0 := 0) dX10_init_39 rfl (Or.inl rfl) (fun _ => rfl) aw_int rfl (by decide) (by decide) rfl (by decide) (by decide) (by decide) rfl (by decide +kernel) (fun _ => rfl) (fun _ => rfl) ?_
  refine ax_pr dX10_init_41 fl_X10_26 (Or.inr ⟨fp_X10_10_5, rfl⟩) rfl (by decide) (by decide) rfl ?_
  refine ax_aload_n (i := 0) dX10_init_44 rfl rfl ?_
  refine ax_iconst (v := 5) dX10_init_45 (by decide) ?_
  refine ax_na (n := 36) (n2 := 37) (N' := 5) (t0 := 0) dX10_init_46 rfl (Or.inl rfl) (fun _ => rfl) aw_int rfl (by decide) (by decide) rfl (by decide) (by decide) (by decide) rfl (by decide +kernel) (fun _ => rfl) (fun _ => rfl) ?_
  refine ax_pr dX10_init_48 fl_X10_29 (Or.inr ⟨fp_X10_10_6, rfl⟩) rfl (by decide) (by decide) rfl ?_
  refine ax_aload_n (i := 0) dX10_init_51 rfl rfl ?_
  refine ax_bipush (v := 10) dX10_init_52 (by decide) ?_
  refine ax_na (n := 37) (n2 := 38) (N' := 10) (t0 := 0) dX10_init_54 rfl (Or.inl rfl) (fun _ => rfl) aw_int rfl (by decide) (by decide) rfl (by decide) (by decide) (by decide) rfl (by decide +kernel) (fun _ => rfl) (fun _ => rfl) ?_
  refine ax_pr dX10_init_56 fl_X10_32 (Or.inr ⟨fp_X10_10_7, rfl⟩) rfl (by decide) (by decide) rfl ?_
  refine ax_aload_n (i := 0) dX10_init_59 rfl rfl ?_
  refine ax_bipush (v := 10) dX10_init_60 (by decide) ?_
  refine ax_na (n := 38) (n2 := 39) (N' := 10) (t0 := 0) dX10_init_62 rfl (Or.inl rfl) (fun _ => rfl) aw_int rfl (by decide) (by decide) rfl (by decide) (by decide) (by decide) rfl (by decide +kernel) (fun _ => rfl) (fun _ => rfl) ?_
  refine ax_pr dX10_init_64 fl_X10_35 (Or.inr ⟨fp_X10_10_8, rfl⟩) rfl (by decide) (by decide) rfl ?_
  refine ax_aload_n (i := 0) dX10_init_67 rfl rfl ?_
  refine ax_bipush (v := 8) dX10_init_68 (by decide) ?_
  refine ax_na (n := 39) (n2 := 40) (N' := 8) (t0 := 0) dX10_init_70 rfl (Or.inl rfl) (fun _ => rfl) aw_int rfl (by decide) (by decide) rfl (by decide) (by decide) (by decide) rfl (by decide +kernel) (fun _ => rfl) (fun _ => rfl) ?_
  refine ax_pr dX10_init_72 fl_X10_38 (Or.inr ⟨fp_X10_10_9, rfl⟩) rfl (by decide) (by decide) rfl ?_
  refine ax_aload_n (i := 0) dX10_init_75 rfl rfl ?_
  refine ax_bipush (v := 8) dX10_init_76 (by decide) ?_
  refine ax_na (n := 40) (n2 := 41) (N' := 8) (t0 := 0) dX10_init_78 rfl (Or.inl rfl) (fun _ => rfl) aw_int rfl (by decide) (by decide) rfl (by decide) (by decide) (by decide) rfl (by decide +kernel) (fun _ => rfl) (fun _ => rfl) ?_
  refine ax_pr dX10_init_80 fl_X10_41 (Or.inr ⟨fp_X10_10_10, rfl⟩) rfl (by decide) (by decide) rfl ?_
  refine ax_aload_n (i := 0) dX10_init_83 rfl rfl ?_
  refine ax_aload_n (i := 1) dX10_init_84 rfl rfl ?_
  refine ax_pr dX10_init_85 fl_X10_44 (Or.inr ⟨fp_X10_10_0, rfl⟩) rfl (by decide) (by decide) rfl ?_
  refine ax_vret dX10_init_88 rfl (by decide) (by decide) ?_
  exact ⟨rfl, rfl, rfl, rfl⟩
theorem i_X10_41 : AC mX10_init 1 16 125 [.ref 41, .ref 16] (Zc 42 ((0, 0, 24) :: (24, 0, 16) :: (24, 10, 40) :: (24, 9, 39) :: (24, 8, 38) :: (24, 7, 37) :: (24, 6, 36) :: (24, 5, 35) :: (24, 4, 34) :: (24, 3, 33) :: (24, 2, 32) :: (24, 1, 25) :: (25, 0, 26) :: (25, 1, 27) :: (25, 2, 28) :: (25, 3, 29) :: (25, 4, 30) :: (25, 5, 31) :: (0, 3, 16) :: (16, 6, 23) :: (16, 5, 22) :: (16, 4, 21) :: (16, 3, 20) :: (16, 2, 19) :: (16, 1, 18) :: (16, 0, 17) :: (0, 9, 9) :: (9, 0, 10) :: (9, 1, 11) :: (9, 2, 12) :: (9, 3, 13) :: (9, 4, 14) :: (9, 5, 15) :: (0, 8, 8) :: (0, 7, 7) :: (0, 6, 6) :: (0, 5, 4) :: (4, 0, 5) :: (0, 4, 1) :: (1, 2, 3) :: (1, 0, 2) :: [])) G00 L00 (DQ none (Zc 58 ((41, 0, 16) :: (41, 10, 57) :: (41, 9, 56) :: (41, 8, 55) :: (41, 7, 54) :: (41, 6, 53) :: (41, 5, 52) :: (41, 4, 51) :: (41, 3, 50) :: (41, 2, 49) :: (41, 1, 42) :: (42, 0, 43) :: (42, 1, 44) :: (42, 2, 45) :: (42, 3, 46) :: (42, 4, 47) :: (42, 5, 48) :: (0, 0, 24) :: (24, 0, 16) :: (24, 10, 40) :: (24, 9, 39) :: (24, 8, 38) :: (24, 7, 37) :: (24, 6, 36) :: (24, 5, 35) :: (24, 4, 34) :: (24, 3, 33) :: (24, 2, 32) :: (24, 1, 25) :: (25, 0, 26) :: (25, 1, 27) :: (25, 2, 28) :: (25, 3, 29) :: (25, 4, 30) :: (25, 5, 31) :: (0, 3, 16) :: (16, 6, 23) :: (16, 5, 22) :: (16, 4, 21) :: (16, 3, 20) :: (16, 2, 19) :: (16, 1, 18) :: (16, 0, 17) :: (0, 9, 9) :: (9, 0, 10) :: (9, 1, 11) :: (9, 2, 12) :: (9, 3, 13) :: (9, 4, 14) :: (9, 5, 15) :: (0, 8, 8) :: (0, 7, 7) :: (0, 6, 6) :: (0, 5, 4) :: (4, 0, 5) :: (0, 4, 1) :: (1, 2, 3) :: (1, 0, 2) :: [])) G00 L00) := by
  refine AC.intro (by decide +kernel) (Nat.le_of_ble_eq_true rfl) ?_
  refine ax_lv [(0, .ref 41), (1, .ref 16)] ⟨rfl, rfl, trivial⟩ ?_
  refine ax_aload_n (i := 0) dX10_init_0 rfl rfl ?_
  refine ax_objI dX10_init_1 lo_X10_3 oi_inst oi_code (Nat.le_of_ble_eq_true rfl) (Nat.le_of_ble_eq_true rfl) ?_
  refine ax_aload_n (i := 0) dX10_init_4 rfl rfl ?_
  refine ax_bipush (v := 6) dX10_init_5 (by decide) ?_
  refine ax_bipush (v := 10) dX10_init_7 (by decide) ?_
  refine ax_nm (n := 42) (n2 := 49) (ty := .int) (K' := 10) dX10_init_9 cw_X10_9 aw_int (Or.inl ⟨rfl, rfl, rfl⟩) rfl rfl (by decide) rfl (by decide) (by decide) (by decide) rfl (by decide +kernel) (by decide +kernel) (fun _ _ _ _ => rfl) (fun _ _ _ _ => rfl) ?_
  refine ax_pr dX10_init_13 fl_X10_11 (Or.inr ⟨fp_X10_10_1, rfl⟩) rfl (by decide) (by decide) rfl ?_
  refine ax_aload_n (i := 0) dX10_init_16 rfl rfl ?_
  refine ax_iconst (v := 4) dX10_init_17 (by decide) ?_
  refine ax_na (n := 49) (n2 := 50) (N' := 4) (t0 := 0) dX10_init_18 rfl (Or.inl rfl) (fun _ => rfl) aw_int rfl (by decide) (by decide) rfl (by decide) (by decide) (by decide) rfl (by decide +kernel) (fun _ => rfl) (fun _ => rfl) ?_
  refine ax_pr dX10_init_20 fl_X10_16 (Or.inr ⟨fp_X10_10_2, rfl⟩) rfl (by decide) (by decide) rfl ?_
  refine ax_aload_n (i := 0) dX10_init_23 rfl rfl ?_
  refine ax_iconst (v := 4) dX10_init_24 (by decide) ?_
  refine ax_na (n := 50) (n2 := 51) (N' := 4) (t0 := 0) dX10_init_25 rfl (Or.inl rfl) (fun _ => rfl) aw_int rfl (by decide) (by decide) rfl (by decide) (by decide) (by decide) rfl (by decide +kernel) (fun _ => rfl) (fun _ => rfl) ?_
  refine ax_pr dX10_init_27 fl_X10_20 (Or.inr ⟨fp_X10_10_3, rfl⟩) rfl (by decide) (by decide) rfl ?_
  refine ax_aload_n (i := 0) dX10_init_30 rfl rfl ?_
  refine ax_iconst (v := 5) dX10_init_31 (by decide) ?_
  refine ax_na (n := 51) (n2 := 52) (N' := 5) (t0 := 0) dX10_init_32 rfl (Or.inl rfl) (fun _ => rfl) aw_int rfl (by decide) (by decide) rfl (by decide) (by decide) (by decide) rfl (by decide +kernel) (fun _ => rfl) (fun _ => rfl) ?_
  refine ax_pr dX10_init_34 fl_X10_23 (Or.inr ⟨fp_X10_10_4, rfl⟩) rfl (by decide) (by decide) rfl ?_
  refine ax_aload_n (i := 0) dX10_init_37 rfl rfl ?_
  refine ax_iconst (v := 5) dX10_init_38 (by decide) ?_
  refine ax_na (n := 52) (n2 := 53) (N' := 5) (t0 := 0) dX10_init_39 rfl (Or.inl rfl) (fun _ => rfl) aw_int rfl (by decide) (by decide) rfl (by decide) (by decide) (by decide) rfl (by decide +kernel) (fun _ => rfl) (fun _ => rfl) ?_
  refine ax_pr dX10_init_41 fl_X10_26 (Or.inr ⟨fp_X10_10_5, rfl⟩) rfl (by decide) (by decide) rfl ?_
  refine ax_aload_n (i := 0) dX10_init_44 rfl rfl ?_
  refine ax_iconst (v := 5) dX10_init_45 (by decide) ?_
  refine ax_na (n := 53) (n2 := 54) (N' := 5) (t0 := 0) dX10_init_46 rfl (Or.inl rfl) (fun _ => rfl) aw_int rfl (by decide) (by decide) rfl (by decide) (by decide) (by decide) rfl (by decide +kernel) (fun _ => rfl) (fun _ => rfl) ?_
  refine ax_pr dX10_init_48 fl_X10_29 (Or.inr ⟨fp_X10_10_6, rfl⟩) rfl (by decide) (by decide) rfl ?_
  refine ax_aload_n (i := 0) dX10_init_51 rfl rfl ?_
  refine ax_bipush (v := 10) dX10_init_52 (by decide) ?_
  refine ax_na (n := 54) (n2 := 55) (N' := 10) (t0 := 0) dX10_init_54 rfl (Or.inl rfl) (fun _ => rfl) aw_int rfl (by decide) (by decide) rfl (by decide) (by decide) (by decide) rfl (by decide +kernel) (fun _ => rfl) (fun _ => rfl) ?_
  refine ax_pr dX10_init_56 fl_X10_32 (Or.inr ⟨fp_X10_10_7, rfl⟩) rfl (by decide) (by decide) rfl ?_
  refine ax_aload_n (i := 0) dX10_init_59 rfl rfl ?_
  refine ax_bipush (v := 10) dX10_init_60 (by decide) ?_
  refine ax_na (n := 55) (n2 := 56) (N' := 10) (t0 := 0) dX10_init_62 rfl (Or.inl rfl) (fun _ => rfl) aw_int rfl (by decide) (by decide) rfl (by decide) (by decide) (by decide) rfl (by decide +kernel) (fun _ => rfl) (fun _ => rfl) ?_
  refine ax_pr dX10_init_64 fl_X10_35 (Or.inr ⟨fp_X10_10_8, rfl⟩) rfl (by decide) (by decide) rfl ?_
  refine ax_aload_n (i := 0) dX10_init_67 rfl rfl ?_
  refine ax_bipush (v := 8) dX10_init_68 (by decide) ?_
  refine ax_na (n := 56) (n2 := 57) (N' := 8) (t0 := 0) dX10_init_70 rfl (Or.inl rfl) (fun _ => rfl) aw_int rfl (by decide) (by decide) rfl (by decide) (by decide) (by decide) rfl (by decide +kernel) (fun _ => rfl) (fun _ => rfl) ?_
  refine ax_pr dX10_init_72 fl_X10_38 (Or.inr ⟨fp_X10_10_9, rfl⟩) rfl (by decide) (by decide) rfl ?_
  refine ax_aload_n (i := 0) dX10_init_75 rfl rfl ?_
  refine ax_bipush (v := 8) dX10_init_76 (by decide) ?_
  refine ax_na (n := 57) (n2 := 58) (N' := 8) (t0 := 0) dX10_init_78 rfl (Or.inl rfl) (fun _ => rfl) aw_int rfl (by decide) (by decide) rfl (by decide) (by decide) (by decide) rfl (by decide +kernel) (fun _ => rfl) (fun _ => rfl) ?_
  refine ax_pr dX10_init_80 fl_X10_41 (Or.inr ⟨fp_X10_10_10, rfl⟩) rfl (by decide) (by decide) rfl ?_
  refine ax_aload_n (i := 0) dX10_init_83 rfl rfl ?_
  refine ax_aload_n (i := 1) dX10_init_84 rfl rfl ?_
  refine ax_pr dX10_init_85 fl_X10_44 (Or.inr ⟨fp_X10_10_0, rfl⟩) rfl (by decide) (by decide) rfl ?_
  refine ax_vret dX10_init_88 rfl (by decide) (by decide) ?_
  exact ⟨rfl, rfl, rfl, rfl⟩
theorem i_X10_58 : AC mX10_init 1 16 125 [.ref 58, .ref 16] (Zc 59 ((0, 1, 41) :: (41, 0, 16) :: (41, 10, 57) :: (41, 9, 56) :: (41, 8, 55) :: (41, 7, 54) :: (41, 6, 53) :: (41, 5, 52) :: (41, 4, 51) :: (41, 3, 50) :: (41, 2, 49) :: (41, 1, 42) :: (42, 0, 43) :: (42, 1, 44) :: (42, 2, 45) :: (42, 3, 46) :: (42, 4, 47) :: (42, 5, 48) :: (0, 0, 24) :: (24, 0, 16) :: (24, 10, 40) :: (24, 9, 39) :: (24, 8, 38) :: (24, 7, 37) :: (24, 6, 36) :: (24, 5, 35) :: (24, 4, 34) :: (24, 3, 33) :: (24, 2, 32) :: (24, 1, 25) :: (25, 0, 26) :: (25, 1, 27) :: (25, 2, 28) :: (25, 3, 29) :: (25, 4, 30) :: (25, 5, 31) :: (0, 3, 16) :: (16, 6, 23) :: (16, 5, 22) :: (16, 4, 21) :: (16, 3, 20) :: (16, 2, 19) :: (16, 1, 18) :: (16, 0, 17) :: (0, 9, 9) :: (9, 0, 10) :: (9, 1, 11) :: (9, 2, 12) :: (9, 3, 13) :: (9, 4, 14) :: (9, 5, 15) :: (0, 8, 8) :: (0, 7, 7) :: (0, 6, 6) :: (0, 5, 4) :: (4, 0, 5) :: (0, 4, 1) :: (1, 2, 3) :: (1, 0, 2) :: [])) G00 L00 (DQ none (Zc 75 ((58, 0, 16) :: (58, 10, 74) :: (58, 9, 73) :: (58, 8, 72) :: (58, 7, 71) :: (58, 6, 70) :: (58, 5, 69) :: (58, 4, 68) :: (58, 3, 67) :: (58, 2, 66) :: (58, 1, 59) :: (59, 0, 60) :: (59, 1, 61) :: (59, 2, 62) :: (59, 3, 63) :: (59, 4, 64) :: (59, 5, 65) :: (0, 1, 41) :: (41, 0, 16) :: (41, 10, 57) :: (41, 9, 56) :: (41, 8, 55) :: (41, 7, 54) :: (41, 6, 53) :: (41, 5, 52) :: (41, 4, 51) :: (41, 3, 50) :: (41, 2, 49) :: (41, 1, 42) :: (42, 0, 43) :: (42, 1, 44) :: (42, 2, 45) :: (42, 3, 46) :: (42, 4, 47) :: (42, 5, 48) :: (0, 0, 24) :: (24, 0, 16) :: (24, 10, 40) :: (24, 9, 39) :: (24, 8, 38) :: (24, 7, 37) :: (24, 6, 36) :: (24, 5, 35) :: (24, 4, 34) :: (24, 3, 33) :: (24, 2, 32) :: (24, 1, 25) :: (25, 0, 26) :: (25, 1, 27) :: (25, 2, 28) :: (25, 3, 29) :: (25, 4, 30) :: (25, 5, 31) :: (0, 3, 16) :: (16, 6, 23) :: (16, 5, 22) :: (16, 4, 21) :: (16, 3, 20) :: (16, 2, 19) :: (16, 1, 18) :: (16, 0, 17) :: (0, 9, 9) :: (9, 0, 10) :: (9, 1, 11) :: (9, 2, 12) :: (9, 3, 13) :: (9, 4, 14) :: (9, 5, 15) :: (0, 8, 8) :: (0, 7, 7) :: (0, 6, 6) :: (0, 5, 4) :: (4, 0, 5) :: (0, 4, 1) :: (1, 2, 3) :: (1, 0, 2) :: [])) G00 L00) := by
  refine AC.intro (by decide +kernel) (Nat.le_of_ble_eq_true rfl) ?_
  refine ax_lv [(0, .ref 58), (1, .ref 16)] ⟨rfl, rfl, trivial⟩ ?_
  refine ax_aload_n (i := 0) dX10_init_0 rfl rfl ?_
  refine ax_objI dX10_init_1 lo_X10_3 oi_inst oi_code (Nat.le_of_ble_eq_true rfl) (Nat.le_of_ble_eq_true rfl) ?_
  refine ax_aload_n (i := 0) dX10_init_4 rfl rfl ?_
  refine ax_bipush (v := 6) dX10_init_5 (by decide) ?_
  refine ax_bipush (v := 10) dX10_init_7 (by decide) ?_
  refine ax_nm (n := 59) (n2 := 66) (ty := .int) (K' := 10) dX10_init_9 cw_X10_9 aw_int (Or.inl ⟨rfl, rfl, rfl⟩) rfl rfl (by decide) rfl (by decide) (by decide) (by decide) rfl (by decide +kernel) (by decide +kernel) (fun _ _ _ _ => rfl) (fun _ _ _ _ => rfl) ?_
  refine ax_pr dX10_init_13 fl_X10_11 (Or.inr ⟨fp_X10_10_1, rfl⟩) rfl (by decide) (by decide) rfl ?_
  refine ax_aload_n (i := 0) dX10_init_16 rfl rfl ?_
  refine ax_iconst (v := 4) dX10_init_17 (by decide) ?_
  refine ax_na (n := 66) (n2 := 67) (N' := 4) (t0 := 0) dX10_init_18 rfl (Or.inl rfl) (fun _ => rfl) aw_int rfl (by decide) (by decide) rfl (by decide) (by decide) (by decide) rfl (by decide +kernel) (fun _ => rfl) (fun _ => rfl) ?_
  refine ax_pr dX10_init_20 fl_X10_16 (Or.inr ⟨fp_X10_10_2, rfl⟩) rfl (by decide) (by decide) rfl ?_
  refine ax_aload_n (i := 0) dX10_init_23 rfl rfl ?_
  refine ax_iconst (v := 4) dX10_init_24 (by decide) ?_
  refine ax_na (n := 67) (n2 := 68) (N' := 4) (t0 := 0) dX10_init_25 rfl (Or.inl rfl) (fun _ => rfl) aw_int rfl (by decide) (by decide) rfl (by decide) (by decide) (by decide) rfl (by decide +kernel) (fun _ => rfl) (fun _ => rfl) ?_
  refine ax_pr dX10_init_27 fl_X10_20 (Or.inr ⟨fp_X10_10_3, rfl⟩) rfl (by decide) (by decide) rfl ?_
  refine ax_aload_n (i := 0) dX10_init_30 rfl rfl ?_
  refine ax_iconst (v := 5) dX10_init_31 (by decide) ?_
  refine ax_na (n := 68) (n2 := 69) (N' := 5) (t0 := 0) dX10_init_32 rfl (Or.inl rfl) (fun _ => rfl) aw_int rfl (by decide) (by decide) rfl (by decide) (by decide) (by decide) rfl (by decide +kernel) (fun _ => rfl) (fun _ => rfl) ?_
  refine ax_pr dX10_init_34 fl_X10_23 (Or.inr ⟨fp_X10_10_4, rfl⟩) rfl (by decide) (by decide) rfl ?_
  refine ax_aload_n (i := 0) dX10_init_37 rfl rfl ?_
  refine ax_iconst (v := 5) dX10_init_38 (by decide) ?_
  refine ax_na (n := 69) (n2 := 70) (N' := 5) (t0 := 0) dX10_init_39 rfl (Or.inl rfl) (fun _ => rfl) aw_int rfl (by decide) (by decide) rfl (by decide) (by decide) (by decide) rfl (by decide +kernel) (fun _ => rfl) (fun _ => rfl) ?_
  refine ax_pr dX10_init_41 fl_X10_26 (Or.inr ⟨fp_X10_10_5, rfl⟩) rfl (by decide) (by decide) rfl ?_
  refine ax_aload_n (i := 0) dX10_init_44 rfl rfl ?_
  refine ax_iconst (v := 5) dX10_init_45 (by decide) ?_
  refine ax_na (n := 70) (n2 := 71) (N' := 5) (t0 := 0) dX10_init_46 rfl (Or.inl rfl) (fun _ => rfl) aw_int rfl (by decide) (by decide) rfl (by decide) (by decide) (by decide) rfl (by decide +kernel) (fun _ => rfl) (fun _ => rfl) ?_
  refine ax_pr dX10_init_48 fl_X10_29 (Or.inr ⟨fp_X10_10_6, rfl⟩) rfl (by decide) (by decide) rfl ?_
  refine ax_aload_n (i := 0) dX10_init_51 rfl rfl ?_
  refine ax_bipush (v := 10) dX10_init_52 (by decide) ?_
  refine ax_na (n := 71) (n2 := 72) (N' := 10) (t0 := 0) dX10_init_54 rfl (Or.inl rfl) (fun _ => rfl) aw_int rfl (by decide) (by decide) rfl (by decide) (by decide) (by decide) rfl (by decide +kernel) (fun _ => rfl) (fun _ => rfl) ?_
  refine ax_pr dX10_init_56 fl_X10_32 (Or.inr ⟨fp_X10_10_7, rfl⟩) rfl (by decide) (by decide) rfl ?_
  refine ax_aload_n (i := 0) dX10_init_59 rfl rfl ?_
  refine ax_bipush (v := 10) dX10_init_60 (by decide) ?_
  refine ax_na (n := 72) (n2 := 73) (N' := 10) (t0 := 0) dX10_init_62 rfl (Or.inl rfl) (fun _ => rfl) aw_int rfl (by decide) (by decide) rfl (by decide) (by decide) (by decide) rfl (by decide +kernel) (fun _ => rfl) (fun _ => rfl) ?_
  refine ax_pr dX10_init_64 fl_X10_35 (Or.inr ⟨fp_X10_10_8, rfl⟩) rfl (by decide) (by decide) rfl ?_
  refine ax_aload_n (i := 0) dX10_init_67 rfl rfl ?_
  refine ax_bipush (v := 8) dX10_init_68 (by decide) ?_
  refine ax_na (n := 73) (n2 := 74) (N' := 8) (t0 := 0) dX10_init_70 rfl (Or.inl rfl) (fun _ => rfl) aw_int rfl (by decide) (by decide) rfl (by decide) (by decide) (by decide) rfl (by decide +kernel) (fun _ => rfl) (fun _ => rfl) ?_
  refine ax_pr dX10_init_72 fl_X10_38 (Or.inr ⟨fp_X10_10_9, rfl⟩) rfl (by decide) (by decide) rfl ?_
  refine ax_aload_n (i := 0) dX10_init_75 rfl rfl ?_
  refine ax_bipush (v := 8) dX10_init_76 (by decide) ?_
  refine ax_na (n := 74) (n2 := 75) (N' := 8) (t0 := 0) dX10_init_78 rfl (Or.inl rfl) (fun _ => rfl) aw_int rfl (by decide) (by decide) rfl (by decide) (by decide) (by decide) rfl (by decide +kernel) (fun _ => rfl) (fun _ => rfl) ?_
  refine ax_pr dX10_init_80 fl_X10_41 (Or.inr ⟨fp_X10_10_10, rfl⟩) rfl (by decide) (by decide) rfl ?_
  refine ax_aload_n (i := 0) dX10_init_83 rfl rfl ?_
  refine ax_aload_n (i := 1) dX10_init_84 rfl rfl ?_
  refine ax_pr dX10_init_85 fl_X10_44 (Or.inr ⟨fp_X10_10_0, rfl⟩) rfl (by decide) (by decide) rfl ?_
  refine ax_vret dX10_init_88 rfl (by decide) (by decide) ?_
  exact ⟨rfl, rfl, rfl, rfl⟩
theorem i_X11 : AC mX11_init 4 74 1245 [.ref 0] (Zc 1 ([])) G00 L00 (DQ none (Zc 75 ((0, 2, 58) :: (58, 0, 16) :: (58, 10, 74) :: (58, 9, 73) :: (58, 8, 72) :: (58, 7, 71) :: (58, 6, 70) :: (58, 5, 69) :: (58, 4, 68) :: (58, 3, 67) :: (58, 2, 66) :: (58, 1, 59) :: (59, 0, 60) :: (59, 1, 61) :: (59, 2, 62) :: (59, 3, 63) :: (59, 4, 64) :: (59, 5, 65) :: (0, 1, 41) :: (41, 0, 16) :: (41, 10, 57) :: (41, 9, 56) :: (41, 8, 55) :: (41, 7, 54) :: (41, 6, 53) :: (41, 5, 52) :: (41, 4, 51) :: (41, 3, 50) :: (41, 2, 49) :: (41, 1, 42) :: (42, 0, 43) :: (42, 1, 44) :: (42, 2, 45) :: (42, 3, 46) :: (42, 4, 47) :: (42, 5, 48) :: (0, 0, 24) :: (24, 0, 16) :: (24, 10, 40) :: (24, 9, 39) :: (24, 8, 38) :: (24, 7, 37) :: (24, 6, 36) :: (24, 5, 35) :: (24, 4, 34) :: (24, 3, 33) :: (24, 2, 32) :: (24, 1, 25) :: (25, 0, 26) :: (25, 1, 27) :: (25, 2, 28) :: (25, 3, 29) :: (25, 4, 30) :: (25, 5, 31) :: (0, 3, 16) :: (16, 6, 23) :: (16, 5, 22) :: (16, 4, 21) :: (16, 3, 20) :: (16, 2, 19) :: (16, 1, 18) :: (16, 0, 17) :: (0, 9, 9) :: (9, 0, 10) :: (9, 1, 11) :: (9, 2, 12) :: (9, 3, 13) :: (9, 4, 14) :: (9, 5, 15) :: (0, 8, 8) :: (0, 7, 7) :: (0, 6, 6) :: (0, 5, 4) :: (4, 0, 5) :: (0, 4, 1) :: (1, 2, 3) :: (1, 0, 2) :: [])) (up2 (up2 (up2 (up2 (up2 (up2 G00 7 0 (-1)) 7 1 (-1)) 7 2 (-1)) 7 3 (-1)) 7 4 (-1)) 7 5 (-1)) L00) := by
  refine AC.intro (by decide +kernel) (Nat.le_of_ble_eq_true rfl) ?_
  refine ax_lv [(0, .ref 0)] ⟨rfl, trivial⟩ ?_
  refine ax_aload_n (i := 0) dX11_init_0 rfl rfl ?_
  refine ax_objI dX11_init_1 lo_X11_5 oi_inst oi_code (Nat.le_of_ble_eq_true rfl) (Nat.le_of_ble_eq_true rfl) ?_
  refine ax_aload_n (i := 0) dX11_init_4 rfl rfl ?_
  refine ax_no (n := 1) (n2 := 2) dX11_init_5 cn_X11_11 (by decide) rfl (by decide) (by decide) (by decide) rfl (by decide +kernel) (fun _ => rfl) (fun _ => rfl) ?_
  refine ax_dup dX11_init_8 rfl ?_
  refine ax_callIN dX11_init_9 li_X11_13 (i_X4_1) rfl rfl (Nat.le_of_ble_eq_true rfl) (Nat.le_of_ble_eq_true rfl) (by decide) (by decide) ?_
  refine ax_pr dX11_init_12 fl_X11_14 (Or.inr ⟨fp_X11_11_4, rfl⟩) rfl (by decide) (by decide) rfl ?_
  refine ax_aload_n (i := 0) dX11_init_15 rfl rfl ?_
  refine ax_no (n := 4) (n2 := 5) dX11_init_16 cn_X11_18 (by decide) rfl (by decide) (by decide) (by decide) rfl (by decide +kernel) (fun _ => rfl) (fun _ => rfl) ?_
  refine ax_dup dX11_init_19 rfl ?_
  refine ax_callIN dX11_init_20 li_X11_20 (i_X0_4) rfl rfl (Nat.le_of_ble_eq_true rfl) (Nat.le_of_ble_eq_true rfl) (by decide) (by decide) ?_
  refine ax_pr dX11_init_23 fl_X11_21 (Or.inr ⟨fp_X11_11_5, rfl⟩) rfl (by decide) (by decide) rfl ?_
  refine ax_aload_n (i := 0) dX11_init_26 rfl rfl ?_
  refine ax_iconst (v := 3) dX11_init_27 (by decide) ?_
  refine ax_na (n := 6) (n2 := 7) (N' := 3) (t0 := 0) dX11_init_28 rfl (Or.inl rfl) (fun _ => rfl) aw_int rfl (by decide) (by decide) rfl (by decide) (by decide) (by decide) rfl (by decide +kernel) (fun _ => rfl) (fun _ => rfl) ?_
  refine ax_pr dX11_init_30 fl_X11_25 (Or.inr ⟨fp_X11_11_6, rfl⟩) rfl (by decide) (by decide) rfl ?_
  refine ax_aload_n (i := 0) dX11_init_33 rfl rfl ?_
  refine ax_bipush (v := 6) dX11_init_34 (by decide) ?_
  refine ax_na (n := 7) (n2 := 8) (N' := 6) (t0 := 0) dX11_init_36 rfl (Or.inl rfl) (fun _ => rfl) aw_int rfl (by decide) (by decide) rfl (by decide) (by decide) (by decide) rfl (by decide +kernel) (fun _ => rfl) (fun _ => rfl) ?_
  refine ax_pr dX11_init_38 fl_X11_29 (Or.inr ⟨fp_X11_11_7, rfl⟩) rfl (by decide) (by decide) rfl ?_
  refine ax_aload_n (i := 0) dX11_init_41 rfl rfl ?_
  refine ax_bipush (v := 6) dX11_init_42 (by decide) ?_
  refine ax_na (n := 8) (n2 := 9) (N' := 6) (t0 := 0) dX11_init_44 rfl (Or.inl rfl) (fun _ => rfl) aw_int rfl (by decide) (by decide) rfl (by decide) (by decide) (by decide) rfl (by decide +kernel) (fun _ => rfl) (fun _ => rfl) ?_
  refine ax_pr dX11_init_46 fl_X11_32 (Or.inr ⟨fp_X11_11_8, rfl⟩) rfl (by decide) (by decide) rfl ?_
  refine ax_aload_n (i := 0) dX11_init_49 rfl rfl ?_
  refine ax_bipush (v := 6) dX11_init_50 (by decide) ?_
  refine ax_bipush (v := 60) dX11_init_52 (by decide) ?_
  refine ax_nm (n := 9) (n2 := 16) (ty := .long) (K' := 60) dX11_init_54 cw_X11_35 aw_long (Or.inr ⟨rfl, rfl, rfl⟩) rfl rfl (by decide) rfl (by decide) (by decide) (by decide) rfl (by decide +kernel) (by decide +kernel) (fun _ _ _ _ => rfl) (fun _ _ _ _ => rfl) ?_
  refine ax_pr dX11_init_58 fl_X11_37 (Or.inr ⟨fp_X11_11_9, rfl⟩) rfl (by decide) (by decide) rfl ?_
  refine ax_aload_n (i := 0) dX11_init_61 rfl rfl ?_
  refine ax_bipush (v := 7) dX11_init_62 (by decide) ?_
  refine ax_nr (n := 16) (n2 := 17) (N' := 7) dX11_init_64 cw_X11_40 rfl (by decide) rfl (by decide) (by decide) (by decide) rfl (by decide +kernel) (fun _ => rfl) (fun _ => rfl) ?_
  refine ax_dup dX11_init_67 rfl ?_
  refine ax_iconst (v := 0) dX11_init_68 (by decide) ?_
  refine ax_no (n := 17) (n2 := 18) dX11_init_69 cn_X11_40 (by decide) rfl (by decide) (by decide) (by decide) rfl (by decide +kernel) (fun _ => rfl) (fun _ => rfl) ?_
  refine ax_dup dX11_init_72 rfl ?_
  refine ax_callIN dX11_init_73 li_X11_42 (i_X5 17) rfl rfl (Nat.le_of_ble_eq_true rfl) (Nat.le_of_ble_eq_true rfl) (by decide) (by decide) ?_
  refine ax_ar dX11_init_76 (by decide) rfl rfl (by decide) (by decide) (by decide) rfl ⟨_, rfl, Or.inl rfl⟩ ?_
  refine ax_dup dX11_init_77 rfl ?_
  refine ax_iconst (v := 1) dX11_init_78 (by decide) ?_
  refine ax_no (n := 18) (n2 := 19) dX11_init_79 cn_X11_43 (by decide) rfl (by decide) (by decide) (by decide) rfl (by decide +kernel) (fun _ => rfl) (fun _ => rfl) ?_
  refine ax_dup dX11_init_82 rfl ?_
  refine ax_callIN dX11_init_83 li_X11_45 (i_X2 18) rfl rfl (Nat.le_of_ble_eq_true rfl) (Nat.le_of_ble_eq_true rfl) (by decide) (by decide) ?_
  refine ax_ar dX11_init_86 (by decide) rfl rfl (by decide) (by decide) (by decide) rfl ⟨_, rfl, Or.inr (by decide +kernel)⟩ ?_
  refine ax_dup dX11_init_87 rfl ?_
  refine ax_iconst (v := 2) dX11_init_88 (by decide) ?_
  refine ax_no (n := 19) (n2 := 20) dX11_init_89 cn_X11_46 (by decide) rfl (by decide) (by decide) (by decide) rfl (by decide +kernel) (fun _ => rfl) (fun _ => rfl) ?_
  refine ax_dup dX11_init_92 rfl ?_
  refine ax_callIN dX11_init_93 li_X11_48 (i_X9 19) rfl rfl (Nat.le_of_ble_eq_true rfl) (Nat.le_of_ble_eq_true rfl) (by decide) (by decide) ?_
  refine ax_ar dX11_init_96 (by decide) rfl rfl (by decide) (by decide) (by decide) rfl ⟨_, rfl, Or.inr (by decide +kernel)⟩ ?_
  refine ax_dup dX11_init_97 rfl ?_
  refine ax_iconst (v := 3) dX11_init_98 (by decide) ?_
  refine ax_no (n := 20) (n2 := 21) dX11_init_99 cn_X11_49 (by decide) rfl (by decide) (by decide) (by decide) rfl (by decide +kernel) (fun _ => rfl) (fun _ => rfl) ?_
  refine ax_dup dX11_init_102 rfl ?_
  refine ax_callIN dX11_init_103 li_X11_51 (i_X3 20) rfl rfl (Nat.le_of_ble_eq_true rfl) (Nat.le_of_ble_eq_true rfl) (by decide) (by decide) ?_
  refine ax_ar dX11_init_106 (by decide) rfl rfl (by decide) (by decide) (by decide) rfl ⟨_, rfl, Or.inr (by decide +kernel)⟩ ?_
  refine ax_dup dX11_init_107 rfl ?_
  refine ax_iconst (v := 4) dX11_init_108 (by decide) ?_
  refine ax_no (n := 21) (n2 := 22) dX11_init_109 cn_X11_52 (by decide) rfl (by decide) (by decide) (by decide) rfl (by decide +kernel) (fun _ => rfl) (fun _ => rfl) ?_
  refine ax_dup dX11_init_112 rfl ?_
  refine ax_callIN dX11_init_113 li_X11_54 (i_X1 21) rfl rfl (Nat.le_of_ble_eq_true rfl) (Nat.le_of_ble_eq_true rfl) (by decide) (by decide) ?_
  refine ax_ar dX11_init_116 (by decide) rfl rfl (by decide) (by decide) (by decide) rfl ⟨_, rfl, Or.inr (by decide +kernel)⟩ ?_
  refine ax_dup dX11_init_117 rfl ?_
  refine ax_iconst (v := 5) dX11_init_118 (by decide) ?_
  refine ax_no (n := 22) (n2 := 23) dX11_init_119 cn_X11_55 (by decide) rfl (by decide) (by decide) (by decide) rfl (by decide +kernel) (fun _ => rfl) (fun _ => rfl) ?_
  refine ax_dup dX11_init_122 rfl ?_
  refine ax_callIN dX11_init_123 li_X11_57 (i_X8 22) rfl rfl (Nat.le_of_ble_eq_true rfl) (Nat.le_of_ble_eq_true rfl) (by decide) (by decide) ?_
  refine ax_ar dX11_init_126 (by decide) rfl rfl (by decide) (by decide) (by decide) rfl ⟨_, rfl, Or.inr (by decide +kernel)⟩ ?_
  refine ax_dup dX11_init_127 rfl ?_
  refine ax_bipush (v := 6) dX11_init_128 (by decide) ?_
  refine ax_no (n := 23) (n2 := 24) dX11_init_130 cn_X11_58 (by decide) rfl (by decide) (by decide) (by decide) rfl (by decide +kernel) (fun _ => rfl) (fun _ => rfl) ?_
  refine ax_dup dX11_init_133 rfl ?_
  refine ax_callIN dX11_init_134 li_X11_60 (i_X7 23) rfl rfl (Nat.le_of_ble_eq_true rfl) (Nat.le_of_ble_eq_true rfl) (by decide) (by decide) ?_
  refine ax_ar dX11_init_137 (by decide) rfl rfl (by decide) (by decide) (by decide) rfl ⟨_, rfl, Or.inr (by decide +kernel)⟩ ?_
  refine ax_pr dX11_init_138 fl_X11_61 (Or.inr ⟨fp_X11_11_3, rfl⟩) rfl (by decide) (by decide) rfl ?_
  refine ax_aload_n (i := 0) dX11_init_141 rfl rfl ?_
  refine ax_no (n := 24) (n2 := 25) dX11_init_142 cn_X11_65 (by decide) rfl (by decide) (by decide) (by decide) rfl (by decide +kernel) (fun _ => rfl) (fun _ => rfl) ?_
  refine ax_dup dX11_init_145 rfl ?_
  refine ax_aload_n (i := 0) dX11_init_146 rfl rfl ?_
  refine ax_getR dX11_init_147 fl_X11_61 rfl (Zc_s (by decide) rfl) (show r9 _ 0 3 = some 16 from rfl) ?_
  refine ax_callI dX11_init_150 li_X11_67 (i_X10_24) rfl rfl (Nat.le_of_ble_eq_true rfl) (Nat.le_of_ble_eq_true rfl) (by decide) (by decide) ?_
  refine ax_pr dX11_init_153 fl_X11_70 (Or.inr ⟨fp_X11_11_0, rfl⟩) rfl (by decide) (by decide) rfl ?_
  refine ax_aload_n (i := 0) dX11_init_156 rfl rfl ?_
  refine ax_no (n := 41) (n2 := 42) dX11_init_157 cn_X11_65 (by decide) rfl (by decide) (by decide) (by decide) rfl (by decide +kernel) (fun _ => rfl) (fun _ => rfl) ?_
  refine ax_dup dX11_init_160 rfl ?_
  refine ax_aload_n (i := 0) dX11_init_161 rfl rfl ?_
  refine ax_getR dX11_init_162 fl_X11_61 rfl (Zc_s (by decide) rfl) (show r9 _ 0 3 = some 16 from rfl) ?_
  refine ax_callI dX11_init_165 li_X11_67 (i_X10_41) rfl rfl (Nat.le_of_ble_eq_true rfl) (Nat.le_of_ble_eq_true rfl) (by decide) (by decide) ?_
  refine ax_pr dX11_init_168 fl_X11_74 (Or.inr ⟨fp_X11_11_1, rfl⟩) rfl (by decide) (by decide) rfl ?_
  refine ax_aload_n (i := 0) dX11_init_171 rfl rfl ?_
  refine ax_no (n := 58) (n2 := 59) dX11_init_172 cn_X11_65 (by decide) rfl (by decide) (by decide) (by decide) rfl (by decide +kernel) (fun _ => rfl) (fun _ => rfl) ?_
  refine ax_dup dX11_init_175 rfl ?_
  refine ax_aload_n (i := 0) dX11_init_176 rfl rfl ?_
  refine ax_getR dX11_init_177 fl_X11_61 rfl (Zc_s (by decide) rfl) (show r9 _ 0 3 = some 16 from rfl) ?_
  refine ax_callI dX11_init_180 li_X11_67 (i_X10_58) rfl rfl (Nat.le_of_ble_eq_true rfl) (Nat.le_of_ble_eq_true rfl) (by decide) (by decide) ?_
  refine ax_pr dX11_init_183 fl_X11_77 (Or.inr ⟨fp_X11_11_2, rfl⟩) rfl (by decide) (by decide) rfl ?_
  refine ax_aload_n (i := 0) dX11_init_186 rfl rfl ?_
  refine ax_getR dX11_init_187 fl_X11_29 rfl (Zc_s (by decide) rfl) (show r9 _ 0 7 = some 7 from rfl) ?_
  refine ax_iconst (v := (-1)) dX11_init_190 (by decide) ?_
  refine ax_cS0 dX11_init_191 lk_X11_80 (c_fill6 (Zc_s (by decide) rfl)) rfl rfl (Nat.le_of_ble_eq_true rfl) (Nat.le_of_ble_eq_true rfl) (by decide) (by decide) ?_
  refine ax_vret dX11_init_194 rfl (by decide) (by decide) ?_
  exact ⟨rfl, rfl, rfl, rfl⟩
