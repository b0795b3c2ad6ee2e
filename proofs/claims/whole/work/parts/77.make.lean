-- ===== the constructors: the class =====
/-- shapes of the places, in the order of their making -/
def SHc : List (Option Sh) := [some (.inl 11), some (.inl 10), some (.inr (.object "FireApologies$Rocket", 7)), some (.inl 5), some (.inl 2), some (.inl 9), some (.inl 3), some (.inl 1), some (.inl 8), some (.inl 7), some (.inr (.array .int, 6)), some (.inr (.int, 10)), some (.inr (.int, 10)), some (.inr (.int, 10)), some (.inr (.int, 10)), some (.inr (.int, 10)), some (.inr (.int, 10)), some (.inr (.int, 4)), some (.inr (.int, 4)), some (.inr (.int, 5)), some (.inr (.int, 5)), some (.inr (.int, 5)), some (.inr (.int, 10)), some (.inr (.int, 10)), some (.inr (.int, 8)), some (.inr (.int, 8)), some (.inl 10), some (.inr (.object "FireApologies$Rocket", 7)), some (.inl 5), some (.inl 2), some (.inl 9), some (.inl 3), some (.inl 1), some (.inl 8), some (.inl 7), some (.inr (.array .int, 6)), some (.inr (.int, 10)), some (.inr (.int, 10)), some (.inr (.int, 10)), some (.inr (.int, 10)), some (.inr (.int, 10)), some (.inr (.int, 10)), some (.inr (.int, 4)), some (.inr (.int, 4)), some (.inr (.int, 5)), some (.inr (.int, 5)), some (.inr (.int, 5)), some (.inr (.int, 10)), some (.inr (.int, 10)), some (.inr (.int, 8)), some (.inr (.int, 8)), some (.inl 10), some (.inr (.object "FireApologies$Rocket", 7)), some (.inl 5), some (.inl 2), some (.inl 9), some (.inl 3), some (.inl 1), some (.inl 8), some (.inl 7), some (.inr (.array .int, 6)), some (.inr (.int, 10)), some (.inr (.int, 10)), some (.inr (.int, 10)), some (.inr (.int, 10)), some (.inr (.int, 10)), some (.inr (.int, 10)), some (.inr (.int, 4)), some (.inr (.int, 4)), some (.inr (.int, 5)), some (.inr (.int, 5)), some (.inr (.int, 5)), some (.inr (.int, 10)), some (.inr (.int, 10)), some (.inr (.int, 8)), some (.inr (.int, 8)), some (.inl 4), some (.inr (.byte, 100)), some (.inr (.int, 300)), some (.inl 0), some (.inr (.int, 20)), some (.inr (.int, 3)), some (.inr (.int, 6)), some (.inr (.int, 6)), some (.inr (.array .long, 6)), some (.inr (.long, 60)), some (.inr (.long, 60)), some (.inr (.long, 60)), some (.inr (.long, 60)), some (.inr (.long, 60)), some (.inr (.long, 60)), some (.inl 12), some (.inr (.int, 4)), some (.inr (.int, 4)), some (.inr (.int, 6)), some (.inr (.int, 6)), some (.inr (.int, 6)), some (.inr (.int, 6)), some (.inr (.int, 6)), some (.inr (.int, 6)), some (.inr (.int, 24)), some (.inr (.int, 100)), some (.inr (.int, 6)), some (.inr (.int, 61)), some (.inr (.int, 61)), some (.inr (.int, 61)), some (.inr (.int, 61)), some (.inr (.int, 800)), some (.inr (.boolean, 110)), some (.inr (.int, 5)), some (.inr (.int, 5)), some (.inr (.int, 5)), some (.inr (.int, 10)), some (.inr (.int, 10)), some (.inr (.int, 8)), some (.inr (.int, 8)), some (.inr (.int, 20)), some (.inr (.int, 125)), some (.inr (.int, 125)), some (.inr (.int, 3)), some (.inr (.int, 3)), some (.inr (.int, 6)), some (.inr (.int, 6)), some (.inr (.long, 360))]
def SH1 (k : Nat) : Option Sh := SHc.getD k none
def r9 : List (Nat × Nat × Nat) → Nat → Nat → Option Nat
  | [], _, _ => none
  | q :: t, k, i => if k = q.1 ∧ i = q.2.1 then some q.2.2 else r9 t k i
/-- the first n places are made, and these references set -/
def Zc (n : Nat) (rf : List (Nat × Nat × Nat)) : Zt := (n, fun k => if k < n then SH1 k else none, r9 rf)
def rb (rf : List (Nat × Nat × Nat)) (n : Nat) : Bool := rf.all (fun q => Nat.blt q.1 n)
theorem r9_no {n : Nat} : ∀ (rf : List (Nat × Nat × Nat)), rb rf n = true → ∀ k i, n ≤ k → r9 rf k i = none
  | [], _, _, _, _ => rfl
  | q :: t, h, k, i, hk => by
    unfold rb at h
    rw [List.all_cons, Bool.and_eq_true] at h
    have h1 : q.1 < n := Nat.le_of_ble_eq_true h.1
    unfold r9
    rw [if_neg (by omega)]
    exact r9_no t h.2 k i hk
theorem Zc_n {n : Nat} {rf : List (Nat × Nat × Nat)} {x : Sh} (hs : SH1 n = some x) (hr : rb rf n = true) : Zn (Zc n rf) x = Zc (n + 1) rf := by
  have e1 : upd1 (fun k => if k < n then SH1 k else none) n (some x) = fun k => if k < n + 1 then SH1 k else none := funext fun k => by
    by_cases e : k = n
    · subst e; rw [upd1_s, if_pos (Nat.lt_succ_self k), hs]
    · rw [upd1_n e]
      by_cases c : k < n
      · rw [if_pos c, if_pos (by omega)]
      · rw [if_neg c, if_neg (by omega)]
  have e2 : upr (r9 rf) n (fun _ => none) = r9 rf := funext fun k => by
    by_cases e : k = n
    · subst e; rw [upr_s]; exact funext fun i => (r9_no rf hr k i (Nat.le_refl _)).symm
    · rw [upr_n e]
  show (n + 1, upd1 (fun k => if k < n then SH1 k else none) n (some x), upr (r9 rf) n (fun _ => none)) = _
  rw [e1, e2]
  rfl
theorem r9_up {rf : List (Nat × Nat × Nat)} {k i j : Nat} : up2 (r9 rf) k i (some j) = r9 ((k, i, j) :: rf) := funext fun a => funext fun b => by
  unfold up2
  rw [r9]
  by_cases e : a = k
  · by_cases e2 : b = i
    · rw [if_pos e, if_pos e2, if_pos ⟨e, e2⟩]
    · rw [if_pos e, if_neg e2, if_neg (fun z => e2 z.2)]
  · rw [if_neg e, if_neg (fun z => e z.1)]
theorem upr_z {α : Type} {G : Nat → Nat → α} {n : Nat} {z : α} (h : ∀ i, G n i = z) : upr G n (fun _ => z) = G := funext fun k => by
  by_cases e : k = n
  · subst e; rw [upr_s]; exact funext fun i => (h i).symm
  · rw [upr_n e]
theorem Gm_z {α : Type} {G : Nat → Nat → α} {N n : Nat} {z : α} (h : ∀ k i, N ≤ k → k < N + 1 + n → G k i = z) : Gm G N n z = G := funext fun k => by
  unfold Gm
  by_cases e : N ≤ k ∧ k < N + 1 + n
  · rw [if_pos e]; exact funext fun i => (h k i e.1 e.2).symm
  · rw [if_neg e]
theorem ax_na {X : Option (Nat × (Nat → Int32))} {M : Mt} {d mc ms cu su pc : Nat} {lv : Lv} {st : List Value} {G : Gt} {L : Lt} {Q : Qt} {n n2 : Nat} {rf : List (Nat × Nat × Nat)} {atype : ArrayType} {ty : FieldType} {v : Int32} {N' t0 : Nat} (hd : decode M.2.1 pc = .ok (.newarray atype, 2)) (hty : newarray.typeOf atype = ty) (ht : isI ty = true ∨ ty = .long) (h0 : ∀ tc : FieldType → ClassId, (tyl tc)[t0]? = some (tc ty, ty)) (hw : Cond.arrayClass ty ∈ TB) (hn0 : v = nI N') (hb : N' * componentBytes ty ≤ 536870912) (hb2 : N' < 2147483648) (hn2 : n2 = n + 1) (hN : n + 1 ≤ 1000) (hc1 : cu + 1 ≤ mc) (hc2 : su + N' ≤ ms) (hsh : SH1 n = some (.inr (ty, N'))) (hrf : rb rf n = true) (hG : ∀ i, G n i = 0) (hL : ∀ i, L n i = 0)
    (kk : AX X M d mc ms (cu + 1) (su + N') (pc + 2) lv (.ref n :: st) (Zc n2 rf) G L Q) : AX X M d mc ms cu su pc lv (.int v :: st) (Zc n rf) G L Q := by
  subst hn2
  refine ax_newarr hd hty ht h0 hw hn0 hb hb2 hN hc1 hc2 ?_
  show AX X M d mc ms (cu + 1) (su + N') (pc + 2) lv (.ref n :: st) (Zn (Zc n rf) (.inr (ty, N'))) (upr G n (fun _ => 0)) (upr L n (fun _ => 0)) Q
  rw [Zc_n hsh hrf, upr_z hG, upr_z hL]
  exact kk
theorem ax_nr {X : Option (Nat × (Nat → Int32))} {M : Mt} {d mc ms cu su pc : Nat} {lv : Lv} {st : List Value} {G : Gt} {L : Lt} {Q : Qt} {n n2 : Nat} {rf : List (Nat × Nat × Nat)} {idx : Nat} {v : Int32} {N' : Nat} (hd : decode M.2.1 pc = .ok (.anewarray idx, 3)) (hw : Cond.classLink M.1.cls idx "FireApologies$Rocket" ∈ TB) (hn0 : v = nI N') (hb : N' * 4 ≤ 536870912) (hn2 : n2 = n + 1) (hN : n + 1 ≤ 1000) (hc1 : cu + 1 ≤ mc) (hc2 : su + N' ≤ ms) (hsh : SH1 n = some (.inr (.object "FireApologies$Rocket", N'))) (hrf : rb rf n = true) (hG : ∀ i, G n i = 0) (hL : ∀ i, L n i = 0)
    (kk : AX X M d mc ms (cu + 1) (su + N') (pc + 3) lv (.ref n :: st) (Zc n2 rf) G L Q) : AX X M d mc ms cu su pc lv (.int v :: st) (Zc n rf) G L Q := by
  subst hn2
  refine ax_newref hd hw hn0 hb hN hc1 hc2 ?_
  show AX X M d mc ms (cu + 1) (su + N') (pc + 3) lv (.ref n :: st) (Zn (Zc n rf) (.inr (.object "FireApologies$Rocket", N'))) (upr G n (fun _ => 0)) (upr L n (fun _ => 0)) Q
  rw [Zc_n hsh hrf, upr_z hG, upr_z hL]
  exact kk
theorem ax_no {X : Option (Nat × (Nat → Int32))} {M : Mt} {d mc ms cu su pc : Nat} {lv : Lv} {st : List Value} {G : Gt} {L : Lt} {Q : Qt} {n n2 : Nat} {rf : List (Nat × Nat × Nat)} {idx ci : Nat} (hd : decode M.2.1 pc = .ok (.new idx, 3)) (hk : CLn M.1.cls idx ci) (hci : ci < 13) (hn2 : n2 = n + 1) (hN : n + 1 ≤ 1000) (hc1 : cu + 1 ≤ mc) (hc2 : su + nF ci ≤ ms) (hsh : SH1 n = some (.inl ci)) (hrf : rb rf n = true) (hG : ∀ i, G n i = 0) (hL : ∀ i, L n i = 0)
    (kk : AX X M d mc ms (cu + 1) (su + nF ci) (pc + 3) lv (.ref n :: st) (Zc n2 rf) G L Q) : AX X M d mc ms cu su pc lv st (Zc n rf) G L Q := by
  subst hn2
  refine ax_new hd hk hN hci hc1 hc2 ?_
  show AX X M d mc ms (cu + 1) (su + nF ci) (pc + 3) lv (.ref n :: st) (Zn (Zc n rf) (.inl ci)) (upr G n (fun _ => 0)) (upr L n (fun _ => 0)) Q
  rw [Zc_n hsh hrf, upr_z hG, upr_z hL]
  exact kk
theorem ax_pr {X : Option (Nat × (Nat → Int32))} {M : Mt} {d mc ms cu su pc : Nat} {lv : Lv} {st : List Value} {G : Gt} {L : Lt} {Q : Qt} {n : Nat} {rf : List (Nat × Nat × Nat)} {idx ci i k j : Nat} (hd : decode M.2.1 pc = .ok (.putfield idx, 3)) (hf : FL M.1.cls idx ci i) (hfin : (∃ C T N, CL[ci]? = some (C, T, N) ∧ (T i).2.2.2 = false) ∨ (FLp ci i true M.1.cls ∧ M.1.name = "<init>")) (ht : isR (tyF ci i) = true) (hj : j < n) (hk : k < n) (hz : SH1 k = some (.inl ci)) (kk : AX X M d mc ms cu su (pc + 3) lv st (Zc n ((k, i, j) :: rf)) G L Q) : AX X M d mc ms cu su pc lv (.ref j :: .ref k :: st) (Zc n rf) G L Q := by
  refine ax_putO (o := some j) hd hf hfin ht (fun a ha => by cases ha; exact hj) (show (if k < n then SH1 k else none) = _ from by rw [if_pos hk]; exact hz) ?_
  show AX X M d mc ms cu su (pc + 3) lv st (n, (fun k => if k < n then SH1 k else none), up2 (r9 rf) k i (some j)) G L Q
  rw [r9_up]
  exact kk
theorem ax_ar {X : Option (Nat × (Nat → Int32))} {M : Mt} {d mc ms cu su pc : Nat} {lv : Lv} {st : List Value} {G : Gt} {L : Lt} {Q : Qt} {n : Nat} {rf : List (Nat × Nat × Nat)} {k N j q ci : Nat} {i : Int32} (hd : decode M.2.1 pc = .ok (.aastore, 1)) (hk : k < n) (hz : SH1 k = some (.inr (.object "FireApologies$Rocket", N))) (hi : i = nI j) (hj : j < N) (hnn : N < 2147483648) (hqn : q < n) (hq : SH1 q = some (.inl ci)) (hcs : ∃ r : vw_C, CL[ci]? = some r ∧ (r.1 = "FireApologies$Rocket" ∨ (r.1, "FireApologies$Rocket") ∈ NWc)) (kk : AX X M d mc ms cu su (pc + 1) lv st (Zc n ((k, j, q) :: rf)) G L Q) : AX X M d mc ms cu su pc lv (.ref q :: .int i :: .ref k :: st) (Zc n rf) G L Q := by
  refine ax_aastR hd (show (if k < n then SH1 k else none) = _ from by rw [if_pos hk]; exact hz) hi hj hnn (show (if q < n then SH1 q else none) = _ from by rw [if_pos hqn]; exact hq) hcs ?_
  show AX X M d mc ms cu su (pc + 1) lv st (n, (fun k => if k < n then SH1 k else none), up2 (r9 rf) k j (some q)) G L Q
  rw [r9_up]
  exact kk
def r6 (n : Nat) (rf : List (Nat × Nat × Nat)) : List (Nat × Nat × Nat) := (n, 0, n + 1) :: (n, 1, n + 2) :: (n, 2, n + 3) :: (n, 3, n + 4) :: (n, 4, n + 5) :: (n, 5, n + 6) :: rf
theorem Zc_m {n K : Nat} {rf : List (Nat × Nat × Nat)} {ty : FieldType} (hs : SH1 n = some (.inr (.array ty, 6))) (hs2 : ∀ j, j < 6 → SH1 (n + 1 + j) = some (.inr (ty, K))) (hr : rb rf n = true) : Zm (Zc n rf) ty 6 K = Zc (n + 7) (r6 n rf) := by
  have e1 : (fun a => if a = n then some (Sum.inr (FieldType.array ty, 6)) else if n < a ∧ a < n + 1 + 6 then some (Sum.inr (ty, K)) else (if a < n then SH1 a else none)) = fun k => if k < n + 7 then SH1 k else none := funext fun k => by
    by_cases e : k = n
    · subst e; rw [if_pos rfl, if_pos (by omega), hs]
    rw [if_neg e]
    by_cases c : n < k ∧ k < n + 1 + 6
    · rw [if_pos c, if_pos (by omega), show k = n + 1 + (k - (n + 1)) from by omega, hs2 _ (by omega)]
    rw [if_neg c]
    by_cases c2 : k < n
    · rw [if_pos c2, if_pos (by omega)]
    · rw [if_neg c2, if_neg (by omega)]
  have e2 : (fun a i => if a = n then (if i < 6 then some (n + 1 + i) else none) else if n < a ∧ a < n + 1 + 6 then none else r9 rf a i) = r9 (r6 n rf) := funext fun k => funext fun i => by
    by_cases e : k = n
    · subst e
      rw [if_pos rfl]
      unfold r6
      by_cases c : i < 6
      · rw [if_pos c]
        rcases (show i = 0 ∨ i = 1 ∨ i = 2 ∨ i = 3 ∨ i = 4 ∨ i = 5 by omega) with rfl | rfl | rfl | rfl | rfl | rfl <;> simp [r9]
      · rw [if_neg c]
        simp only [r9]
        rw [if_neg (by omega), if_neg (by omega), if_neg (by omega), if_neg (by omega), if_neg (by omega), if_neg (by omega), r9_no rf hr k i (Nat.le_refl _)]
    · rw [if_neg e]
      have e9 : r9 (r6 n rf) k i = r9 rf k i := by
        unfold r6
        simp only [r9]
        rw [if_neg (fun z => e z.1), if_neg (fun z => e z.1), if_neg (fun z => e z.1), if_neg (fun z => e z.1), if_neg (fun z => e z.1), if_neg (fun z => e z.1)]
      rw [e9]
      by_cases c : n < k ∧ k < n + 1 + 6
      · rw [if_pos c, r9_no rf hr k i (by omega)]
      · rw [if_neg c]
  show (n + 1 + 6, (fun a => if a = n then some (Sum.inr (FieldType.array ty, 6)) else if n < a ∧ a < n + 1 + 6 then some (Sum.inr (ty, K)) else (if a < n then SH1 a else none)), (fun a i => if a = n then (if i < 6 then some (n + 1 + i) else none) else if n < a ∧ a < n + 1 + 6 then none else r9 rf a i)) = _
  rw [e1, e2]
  rfl
theorem ax_nm {X : Option (Nat × (Nat → Int32))} {M : Mt} {d mc ms cu su pc : Nat} {lv : Lv} {st : List Value} {G : Gt} {L : Lt} {Q : Qt} {n n2 : Nat} {rf : List (Nat × Nat × Nat)} {idx : Nat} {ty : FieldType} {v k : Int32} {K' t0 t1 : Nat} (hd : decode M.2.1 pc = .ok (.multianewarray idx 2, 4)) (hw : Cond.classLink M.1.cls idx ("[" ++ (FieldType.array ty).toString) ∈ TB) (hw2 : Cond.arrayClass ty ∈ TB) (ht : (ty = .int ∧ t0 = 5 ∧ t1 = 0) ∨ (ty = .long ∧ t0 = 6 ∧ t1 = 1)) (hn0 : v = nI 6) (hk0 : k = nI K') (hb2 : K' ≤ 1000) (hn2 : n2 = n + 7) (hN : n + 7 ≤ 1000) (hc1 : cu + 7 ≤ mc) (hc2 : su + (6 + 6 * K') ≤ ms) (hsh : SH1 n = some (.inr (.array ty, 6))) (hsh2 : ∀ j, j < 6 → SH1 (n + 1 + j) = some (.inr (ty, K'))) (hrf : rb rf n = true) (hG : ∀ k i, n ≤ k → k < n + 7 → G k i = 0) (hL : ∀ k i, n ≤ k → k < n + 7 → L k i = 0)
    (kk : AX X M d mc ms (cu + 1 + 6) (su + 6 + 6 * K') (pc + 4) lv (.ref n :: st) (Zc n2 (r6 n rf)) G L Q) : AX X M d mc ms cu su pc lv (.int k :: .int v :: st) (Zc n rf) G L Q := by
  subst hn2
  refine ax_mna (N' := 6) hd hw hw2 ht hn0 hk0 (by decide) hb2 hN hc1 hc2 ?_
  show AX X M d mc ms (cu + 1 + 6) (su + 6 + 6 * K') (pc + 4) lv (.ref n :: st) (Zm (Zc n rf) ty 6 K') (Gm G n 6 0) (Gm L n 6 0) Q
  rw [Zc_m hsh hsh2 hrf, Gm_z (fun k i a b => hG k i a (by omega)), Gm_z (fun k i a b => hL k i a (by omega))]
  exact kk
theorem Zc_s {n k : Nat} {rf : List (Nat × Nat × Nat)} {x : Sh} (hk : k < n) (h : SH1 k = some x) : (Zc n rf).2.1 k = some x := by
  show (if k < n then SH1 k else none) = _
  rw [if_pos hk]; exact h
def G00 : Gt := fun _ _ => 0
def L00 : Lt := fun _ _ => 0
theorem c_fill6 {Z : Zt} {G : Gt} {L : Lt} {a9 : Nat} (hz : Z.2.1 a9 = some (.inr (.int, 6))) : AC mJ7_fill_53178 1 0 0 [.ref a9, .int (-1)] Z G L (DQ none Z (up2 (up2 (up2 (up2 (up2 (up2 G a9 0 (-1)) a9 1 (-1)) a9 2 (-1)) a9 3 (-1)) a9 4 (-1)) a9 5 (-1)) L) := by
  refine AC.introF (by decide +kernel) (Nat.le_of_ble_eq_true rfl) ?_
  refine ax_lv [(0, .ref a9), (1, .int (-1))] ⟨rfl, rfl, trivial⟩ ?_
  refine ax_iconst (v := 0) dJ7_fill_53178_0 (by decide) ?_
  refine ax_istore_n (i := 2) dJ7_fill_53178_1 rfl (by decide) rfl ?_
  refine ax_aload_n (i := 0) dJ7_fill_53178_2 rfl rfl ?_
  refine ax_alen (t0 := 0) (v := 6) dJ7_fill_53178_3 hz (fun _ => rfl) rfl ?_
  refine ax_istore_n (i := 3) dJ7_fill_53178_4 rfl (by decide) rfl ?_
  refine ax_iload_n (i := 2) dJ7_fill_53178_5 rfl rfl ?_
  refine ax_iload_n (i := 3) dJ7_fill_53178_6 rfl rfl ?_
  refine ax_icmp_ge (tgt := 20) dJ7_fill_53178_7 (by decide) (fun c => absurd c (by decide)) (fun _ => ?_)
  refine ax_aload_n (i := 0) dJ7_fill_53178_10 rfl rfl ?_
  refine ax_iload_n (i := 2) dJ7_fill_53178_11 rfl rfl ?_
  refine ax_iload_n (i := 1) dJ7_fill_53178_12 rfl rfl ?_
  refine ax_iastN 0 dJ7_fill_53178_13 hz rfl (by decide) (by decide) ?_
  refine ax_iinc (v := 1) dJ7_fill_53178_14 rfl rfl (by decide) rfl ?_
  refine ax_goto (tgt := 5) dJ7_fill_53178_17 (by decide) ?_
  refine ax_iload_n (i := 2) dJ7_fill_53178_5 rfl rfl ?_
  refine ax_iload_n (i := 3) dJ7_fill_53178_6 rfl rfl ?_
  refine ax_icmp_ge (tgt := 20) dJ7_fill_53178_7 (by decide) (fun c => absurd c (by decide)) (fun _ => ?_)
  refine ax_aload_n (i := 0) dJ7_fill_53178_10 rfl rfl ?_
  refine ax_iload_n (i := 2) dJ7_fill_53178_11 rfl rfl ?_
  refine ax_iload_n (i := 1) dJ7_fill_53178_12 rfl rfl ?_
  refine ax_iastN 1 dJ7_fill_53178_13 hz rfl (by decide) (by decide) ?_
  refine ax_iinc (v := 2) dJ7_fill_53178_14 rfl rfl (by decide) rfl ?_
  refine ax_goto (tgt := 5) dJ7_fill_53178_17 (by decide) ?_
  refine ax_iload_n (i := 2) dJ7_fill_53178_5 rfl rfl ?_
  refine ax_iload_n (i := 3) dJ7_fill_53178_6 rfl rfl ?_
  refine ax_icmp_ge (tgt := 20) dJ7_fill_53178_7 (by decide) (fun c => absurd c (by decide)) (fun _ => ?_)
  refine ax_aload_n (i := 0) dJ7_fill_53178_10 rfl rfl ?_
  refine ax_iload_n (i := 2) dJ7_fill_53178_11 rfl rfl ?_
  refine ax_iload_n (i := 1) dJ7_fill_53178_12 rfl rfl ?_
  refine ax_iastN 2 dJ7_fill_53178_13 hz rfl (by decide) (by decide) ?_
  refine ax_iinc (v := 3) dJ7_fill_53178_14 rfl rfl (by decide) rfl ?_
  refine ax_goto (tgt := 5) dJ7_fill_53178_17 (by decide) ?_
  refine ax_iload_n (i := 2) dJ7_fill_53178_5 rfl rfl ?_
  refine ax_iload_n (i := 3) dJ7_fill_53178_6 rfl rfl ?_
  refine ax_icmp_ge (tgt := 20) dJ7_fill_53178_7 (by decide) (fun c => absurd c (by decide)) (fun _ => ?_)
  refine ax_aload_n (i := 0) dJ7_fill_53178_10 rfl rfl ?_
  refine ax_iload_n (i := 2) dJ7_fill_53178_11 rfl rfl ?_
  refine ax_iload_n (i := 1) dJ7_fill_53178_12 rfl rfl ?_
  refine ax_iastN 3 dJ7_fill_53178_13 hz rfl (by decide) (by decide) ?_
  refine ax_iinc (v := 4) dJ7_fill_53178_14 rfl rfl (by decide) rfl ?_
  refine ax_goto (tgt := 5) dJ7_fill_53178_17 (by decide) ?_
  refine ax_iload_n (i := 2) dJ7_fill_53178_5 rfl rfl ?_
  refine ax_iload_n (i := 3) dJ7_fill_53178_6 rfl rfl ?_
  refine ax_icmp_ge (tgt := 20) dJ7_fill_53178_7 (by decide) (fun c => absurd c (by decide)) (fun _ => ?_)
  refine ax_aload_n (i := 0) dJ7_fill_53178_10 rfl rfl ?_
  refine ax_iload_n (i := 2) dJ7_fill_53178_11 rfl rfl ?_
  refine ax_iload_n (i := 1) dJ7_fill_53178_12 rfl rfl ?_
  refine ax_iastN 4 dJ7_fill_53178_13 hz rfl (by decide) (by decide) ?_
  refine ax_iinc (v := 5) dJ7_fill_53178_14 rfl rfl (by decide) rfl ?_
  refine ax_goto (tgt := 5) dJ7_fill_53178_17 (by decide) ?_
  refine ax_iload_n (i := 2) dJ7_fill_53178_5 rfl rfl ?_
  refine ax_iload_n (i := 3) dJ7_fill_53178_6 rfl rfl ?_
  refine ax_icmp_ge (tgt := 20) dJ7_fill_53178_7 (by decide) (fun c => absurd c (by decide)) (fun _ => ?_)
  refine ax_aload_n (i := 0) dJ7_fill_53178_10 rfl rfl ?_
  refine ax_iload_n (i := 2) dJ7_fill_53178_11 rfl rfl ?_
  refine ax_iload_n (i := 1) dJ7_fill_53178_12 rfl rfl ?_
  refine ax_iastN 5 dJ7_fill_53178_13 hz rfl (by decide) (by decide) ?_
  refine ax_iinc (v := 6) dJ7_fill_53178_14 rfl rfl (by decide) rfl ?_
  refine ax_goto (tgt := 5) dJ7_fill_53178_17 (by decide) ?_
  refine ax_iload_n (i := 2) dJ7_fill_53178_5 rfl rfl ?_
  refine ax_iload_n (i := 3) dJ7_fill_53178_6 rfl rfl ?_
  refine ax_icmp_ge (tgt := 20) dJ7_fill_53178_7 (by decide) (fun _ => ?_) (fun c => absurd (by decide) c)
  refine ax_vret dJ7_fill_53178_20 rfl (Nat.le_of_ble_eq_true rfl) (Nat.le_of_ble_eq_true rfl) ?_
  exact ⟨rfl, rfl, rfl, rfl⟩
theorem i_X5 {Z : Zt} {G : Gt} {L : Lt} (k : Nat) : AC mX5_init 1 0 0 [.ref k] Z G L (DQ none Z G L) := by
  refine AC.intro (by decide +kernel) (Nat.le_of_ble_eq_true rfl) ?_
  refine ax_lv [(0, .ref k)] ⟨rfl, trivial⟩ ?_
  refine ax_aload_n (i := 0) dX5_init_0 rfl rfl ?_
  refine ax_objI dX5_init_1 lo_X5_1 oi_inst oi_code (Nat.le_of_ble_eq_true rfl) (Nat.le_of_ble_eq_true rfl) ?_
  refine ax_vret dX5_init_4 rfl (Nat.le_of_ble_eq_true rfl) (Nat.le_of_ble_eq_true rfl) ?_
  exact ⟨rfl, rfl, rfl, rfl⟩
theorem i_X2 {Z : Zt} {G : Gt} {L : Lt} (k : Nat) : AC mX2_init 2 0 0 [.ref k] Z G L (DQ none Z G L) := by
  refine AC.intro (by decide +kernel) (Nat.le_of_ble_eq_true rfl) ?_
  refine ax_lv [(0, .ref k)] ⟨rfl, trivial⟩ ?_
  refine ax_aload_n (i := 0) dX2_init_0 rfl rfl ?_
  refine ax_callIN dX2_init_1 li_X2_3 (i_X5 k) rfl rfl (Nat.le_of_ble_eq_true rfl) (Nat.le_of_ble_eq_true rfl) (Nat.le_of_ble_eq_true rfl) (Nat.le_of_ble_eq_true rfl) ?_
  refine ax_vret dX2_init_4 rfl (Nat.le_of_ble_eq_true rfl) (Nat.le_of_ble_eq_true rfl) ?_
  exact ⟨rfl, rfl, rfl, rfl⟩
theorem i_X9 {Z : Zt} {G : Gt} {L : Lt} (k : Nat) : AC mX9_init 2 0 0 [.ref k] Z G L (DQ none Z G L) := by
  refine AC.intro (by decide +kernel) (Nat.le_of_ble_eq_true rfl) ?_
  refine ax_lv [(0, .ref k)] ⟨rfl, trivial⟩ ?_
  refine ax_aload_n (i := 0) dX9_init_0 rfl rfl ?_
  refine ax_callIN dX9_init_1 li_X9_1 (i_X5 k) rfl rfl (Nat.le_of_ble_eq_true rfl) (Nat.le_of_ble_eq_true rfl) (Nat.le_of_ble_eq_true rfl) (Nat.le_of_ble_eq_true rfl) ?_
  refine ax_vret dX9_init_4 rfl (Nat.le_of_ble_eq_true rfl) (Nat.le_of_ble_eq_true rfl) ?_
  exact ⟨rfl, rfl, rfl, rfl⟩
theorem i_X3 {Z : Zt} {G : Gt} {L : Lt} (k : Nat) : AC mX3_init 2 0 0 [.ref k] Z G L (DQ none Z G L) := by
  refine AC.intro (by decide +kernel) (Nat.le_of_ble_eq_true rfl) ?_
  refine ax_lv [(0, .ref k)] ⟨rfl, trivial⟩ ?_
  refine ax_aload_n (i := 0) dX3_init_0 rfl rfl ?_
  refine ax_callIN dX3_init_1 li_X3_3 (i_X5 k) rfl rfl (Nat.le_of_ble_eq_true rfl) (Nat.le_of_ble_eq_true rfl) (Nat.le_of_ble_eq_true rfl) (Nat.le_of_ble_eq_true rfl) ?_
  refine ax_vret dX3_init_4 rfl (Nat.le_of_ble_eq_true rfl) (Nat.le_of_ble_eq_true rfl) ?_
  exact ⟨rfl, rfl, rfl, rfl⟩
theorem i_X1 {Z : Zt} {G : Gt} {L : Lt} (k : Nat) : AC mX1_init 3 0 0 [.ref k] Z G L (DQ none Z G L) := by
  refine AC.intro (by decide +kernel) (Nat.le_of_ble_eq_true rfl) ?_
  refine ax_lv [(0, .ref k)] ⟨rfl, trivial⟩ ?_
  refine ax_aload_n (i := 0) dX1_init_0 rfl rfl ?_
  refine ax_callIN dX1_init_1 li_X1_3 (i_X2 k) rfl rfl (Nat.le_of_ble_eq_true rfl) (Nat.le_of_ble_eq_true rfl) (Nat.le_of_ble_eq_true rfl) (Nat.le_of_ble_eq_true rfl) ?_
  refine ax_vret dX1_init_4 rfl (Nat.le_of_ble_eq_true rfl) (Nat.le_of_ble_eq_true rfl) ?_
  exact ⟨rfl, rfl, rfl, rfl⟩
theorem i_X8 {Z : Zt} {G : Gt} {L : Lt} (k : Nat) : AC mX8_init 3 0 0 [.ref k] Z G L (DQ none Z G L) := by
  refine AC.intro (by decide +kernel) (Nat.le_of_ble_eq_true rfl) ?_
  refine ax_lv [(0, .ref k)] ⟨rfl, trivial⟩ ?_
  refine ax_aload_n (i := 0) dX8_init_0 rfl rfl ?_
  refine ax_callIN dX8_init_1 li_X8_1 (i_X9 k) rfl rfl (Nat.le_of_ble_eq_true rfl) (Nat.le_of_ble_eq_true rfl) (Nat.le_of_ble_eq_true rfl) (Nat.le_of_ble_eq_true rfl) ?_
  refine ax_vret dX8_init_4 rfl (Nat.le_of_ble_eq_true rfl) (Nat.le_of_ble_eq_true rfl) ?_
  exact ⟨rfl, rfl, rfl, rfl⟩
theorem i_X7 {Z : Zt} {G : Gt} {L : Lt} (k : Nat) : AC mX7_init 3 0 0 [.ref k] Z G L (DQ none Z G L) := by
  refine AC.intro (by decide +kernel) (Nat.le_of_ble_eq_true rfl) ?_
  refine ax_lv [(0, .ref k)] ⟨rfl, trivial⟩ ?_
  refine ax_aload_n (i := 0) dX7_init_0 rfl rfl ?_
  refine ax_callIN dX7_init_1 li_X7_3 (i_X3 k) rfl rfl (Nat.le_of_ble_eq_true rfl) (Nat.le_of_ble_eq_true rfl) (Nat.le_of_ble_eq_true rfl) (Nat.le_of_ble_eq_true rfl) ?_
  refine ax_vret dX7_init_4 rfl (Nat.le_of_ble_eq_true rfl) (Nat.le_of_ble_eq_true rfl) ?_
  exact ⟨rfl, rfl, rfl, rfl⟩
theorem i_X10_1 : AC mX10_init 4 24 132 [.ref 1] (Zc 2 ([])) G00 L00 (DQ none (Zc 26 ((1, 10, 25) :: (1, 9, 24) :: (1, 8, 23) :: (1, 7, 22) :: (1, 6, 21) :: (1, 5, 20) :: (1, 4, 19) :: (1, 3, 18) :: (1, 2, 17) :: (1, 1, 10) :: (10, 0, 11) :: (10, 1, 12) :: (10, 2, 13) :: (10, 3, 14) :: (10, 4, 15) :: (10, 5, 16) :: (1, 0, 2) :: (2, 6, 9) :: (2, 5, 8) :: (2, 4, 7) :: (2, 3, 6) :: (2, 2, 5) :: (2, 1, 4) :: (2, 0, 3) :: [])) G00 L00) := by
  refine AC.intro (by decide +kernel) (Nat.le_of_ble_eq_true rfl) ?_
  refine ax_lv [(0, .ref 1)] ⟨rfl, trivial⟩ ?_
  refine ax_aload_n (i := 0) dX10_init_0 rfl rfl ?_
  refine ax_objI dX10_init_1 lo_X10_3 oi_inst oi_code (Nat.le_of_ble_eq_true rfl) (Nat.le_of_ble_eq_true rfl) ?_
  refine ax_aload_n (i := 0) dX10_init_4 rfl rfl ?_
  refine ax_bipush (v := 7) dX10_init_5 (by decide) ?_
  refine ax_nr (n := 2) (n2 := 3) (N' := 7) dX10_init_7 cw_X10_9 rfl (by decide) rfl (by decide) (by decide) (by decide) rfl (by decide +kernel) (fun _ => rfl) (fun _ => rfl) ?_
  refine ax_dup dX10_init_10 rfl ?_
  refine ax_iconst (v := 0) dX10_init_11 (by decide) ?_
  refine ax_no (n := 3) (n2 := 4) dX10_init_12 cn_X10_9 (by decide) rfl (by decide) (by decide) (by decide) rfl (by decide +kernel) (fun _ => rfl) (fun _ => rfl) ?_
  refine ax_dup dX10_init_15 rfl ?_
  refine ax_callIN dX10_init_16 li_X10_11 (i_X5 3) rfl rfl (Nat.le_of_ble_eq_true rfl) (Nat.le_of_ble_eq_true rfl) (by decide) (by decide) ?_
  refine ax_ar dX10_init_19 (by decide) rfl rfl (by decide) (by decide) (by decide) rfl ⟨_, rfl, Or.inl rfl⟩ ?_
  refine ax_dup dX10_init_20 rfl ?_
  refine ax_iconst (v := 1) dX10_init_21 (by decide) ?_
  refine ax_no (n := 4) (n2 := 5) dX10_init_22 cn_X10_12 (by decide) rfl (by decide) (by decide) (by decide) rfl (by decide +kernel) (fun _ => rfl) (fun _ => rfl) ?_
  refine ax_dup dX10_init_25 rfl ?_
  refine ax_callIN dX10_init_26 li_X10_14 (i_X2 4) rfl rfl (Nat.le_of_ble_eq_true rfl) (Nat.le_of_ble_eq_true rfl) (by decide) (by decide) ?_
  refine ax_ar dX10_init_29 (by decide) rfl rfl (by decide) (by decide) (by decide) rfl ⟨_, rfl, Or.inr (by decide +kernel)⟩ ?_
  refine ax_dup dX10_init_30 rfl ?_
  refine ax_iconst (v := 2) dX10_init_31 (by decide) ?_
  refine ax_no (n := 5) (n2 := 6) dX10_init_32 cn_X10_15 (by decide) rfl (by decide) (by decide) (by decide) rfl (by decide +kernel) (fun _ => rfl) (fun _ => rfl) ?_
  refine ax_dup dX10_init_35 rfl ?_
  refine ax_callIN dX10_init_36 li_X10_17 (i_X9 5) rfl rfl (Nat.le_of_ble_eq_true rfl) (Nat.le_of_ble_eq_true rfl) (by decide) (by decide) ?_
  refine ax_ar dX10_init_39 (by decide) rfl rfl (by decide) (by decide) (by decide) rfl ⟨_, rfl, Or.inr (by decide +kernel)⟩ ?_
  refine ax_dup dX10_init_40 rfl ?_
  refine ax_iconst (v := 3) dX10_init_41 (by decide) ?_
  refine ax_no (n := 6) (n2 := 7) dX10_init_42 cn_X10_18 (by decide) rfl (by decide) (by decide) (by decide) rfl (by decide +kernel) (fun _ => rfl) (fun _ => rfl) ?_
  refine ax_dup dX10_init_45 rfl ?_
  refine ax_callIN dX10_init_46 li_X10_20 (i_X3 6) rfl rfl (Nat.le_of_ble_eq_true rfl) (Nat.le_of_ble_eq_true rfl) (by decide) (by decide) ?_
  refine ax_ar dX10_init_49 (by decide) rfl rfl (by decide) (by decide) (by decide) rfl ⟨_, rfl, Or.inr (by decide +kernel)⟩ ?_
  refine ax_dup dX10_init_50 rfl ?_
  refine ax_iconst (v := 4) dX10_init_51 (by decide) ?_
  refine ax_no (n := 7) (n2 := 8) dX10_init_52 cn_X10_21 (by decide) rfl (by decide) (by decide) (by decide) rfl (by decide +kernel) (fun _ => rfl) (fun _ => rfl) ?_
  refine ax_dup dX10_init_55 rfl ?_
  refine ax_callIN dX10_init_56 li_X10_23 (i_X1 7) rfl rfl (Nat.le_of_ble_eq_true rfl) (Nat.le_of_ble_eq_true rfl) (by decide) (by decide) ?_
  refine ax_ar dX10_init_59 (by decide) rfl rfl (by decide) (by decide) (by decide) rfl ⟨_, rfl, Or.inr (by decide +kernel)⟩ ?_
  refine ax_dup dX10_init_60 rfl ?_
  refine ax_iconst (v := 5) dX10_init_61 (by decide) ?_
  refine ax_no (n := 8) (n2 := 9) dX10_init_62 cn_X10_24 (by decide) rfl (by decide) (by decide) (by decide) rfl (by decide +kernel) (fun _ => rfl) (fun _ => rfl) ?_
  refine ax_dup dX10_init_65 rfl ?_
  refine ax_callIN dX10_init_66 li_X10_26 (i_X8 8) rfl rfl (Nat.le_of_ble_eq_true rfl) (Nat.le_of_ble_eq_true rfl) (by decide) (by decide) ?_
  refine ax_ar dX10_init_69 (by decide) rfl rfl (by decide) (by decide) (by decide) rfl ⟨_, rfl, Or.inr (by decide +kernel)⟩ ?_
  refine ax_dup dX10_init_70 rfl ?_
  refine ax_bipush (v := 6) dX10_init_71 (by decide) ?_
  refine ax_no (n := 9) (n2 := 10) dX10_init_73 cn_X10_27 (by decide) rfl (by decide) (by decide) (by decide) rfl (by decide +kernel) (fun _ => rfl) (fun _ => rfl) ?_
  refine ax_dup dX10_init_76 rfl ?_
  refine ax_callIN dX10_init_77 li_X10_29 (i_X7 9) rfl rfl (Nat.le_of_ble_eq_true rfl) (Nat.le_of_ble_eq_true rfl) (by decide) (by decide) ?_
  refine ax_ar dX10_init_80 (by decide) rfl rfl (by decide) (by decide) (by decide) rfl ⟨_, rfl, Or.inr (by decide +kernel)⟩ ?_
  refine ax_pr dX10_init_81 fl_X10_30 (Or.inr ⟨fp_X10_10_0, rfl⟩) rfl (by decide) (by decide) rfl ?_
  refine ax_aload_n (i := 0) dX10_init_84 rfl rfl ?_
  refine ax_bipush (v := 6) dX10_init_85 (by decide) ?_
  refine ax_bipush (v := 10) dX10_init_87 (by decide) ?_
  refine ax_nm (n := 10) (n2 := 17) (ty := .int) (K' := 10) dX10_init_89 cw_X10_36 aw_int (Or.inl ⟨rfl, rfl, rfl⟩) rfl rfl (by decide) rfl (by decide) (by decide) (by decide) rfl (by decide +kernel) (by decide +kernel) (fun _ _ _ _ => rfl) (fun _ _ _ _ => rfl) ?_
  refine ax_pr dX10_init_93 fl_X10_38 (Or.inr ⟨fp_X10_10_1, rfl⟩) rfl (by decide) (by decide) rfl ?_
  refine ax_aload_n (i := 0) dX10_init_96 rfl rfl ?_
  refine ax_iconst (v := 4) dX10_init_97 (by decide) ?_
  refine ax_na (n := 17) (n2 := 18) (N' := 4) (t0 := 0) dX10_init_98 rfl (Or.inl rfl) (fun _ => rfl) aw_int rfl (by decide) (by decide) rfl (by decide) (by decide) (by decide) rfl (by decide +kernel) (fun _ => rfl) (fun _ => rfl) ?_
  refine ax_pr dX10_init_100 fl_X10_41 (Or.inr ⟨fp_X10_10_2, rfl⟩) rfl (by decide) (by decide) rfl ?_
  refine ax_aload_n (i := 0) dX10_init_103 rfl rfl ?_
  refine ax_iconst (v := 4) dX10_init_104 (by decide) ?_
  refine ax_na (n := 18) (n2 := 19) (N' := 4) (t0 := 0) dX10_init_105 rfl (Or.inl rfl) (fun _ => rfl) aw_int rfl (by decide) (by decide) rfl (by decide) (by decide) (by decide) rfl (by decide +kernel) (fun _ => rfl) (fun _ => rfl) ?_
  refine ax_pr dX10_init_107 fl_X10_45 (Or.inr ⟨fp_X10_10_3, rfl⟩) rfl (by decide) (by decide) rfl ?_
  refine ax_aload_n (i := 0) dX10_init_110 rfl rfl ?_
  refine ax_iconst (v := 5) dX10_init_111 (by decide) ?_
  refine ax_na (n := 19) (n2 := 20) (N' := 5) (t0 := 0) dX10_init_112 rfl (Or.inl rfl) (fun _ => rfl) aw_int rfl (by decide) (by decide) rfl (by decide) (by decide) (by decide) rfl (by decide +kernel) (fun _ => rfl) (fun _ => rfl) ?_
  refine ax_pr dX10_init_114 fl_X10_48 (Or.inr ⟨fp_X10_10_4, rfl⟩) rfl (by decide) (by decide) rfl ?_
  refine ax_aload_n (i := 0) dX10_init_117 rfl rfl ?_
  refine ax_iconst (v := 5) dX10_init_118 (by decide) ?_
  refine ax_na (n := 20) (n2 := 21) (N' := 5) (t0 := 0) dX10_init_119 rfl (Or.inl rfl) (fun _ => rfl) aw_int rfl (by decide) (by decide) rfl (by decide) (by decide) (by decide) rfl (by decide +kernel) (fun _ => rfl) (fun _ => rfl) ?_
  refine ax_pr dX10_init_121 fl_X10_51 (Or.inr ⟨fp_X10_10_5, rfl⟩) rfl (by decide) (by decide) rfl ?_
  refine ax_aload_n (i := 0) dX10_init_124 rfl rfl ?_
  refine ax_iconst (v := 5) dX10_init_125 (by decide) ?_
  refine ax_na (n := 21) (n2 := 22) (N' := 5) (t0 := 0) dX10_init_126 rfl (Or.inl rfl) (fun _ => rfl) aw_int rfl (by decide) (by decide) rfl (by decide) (by decide) (by decide) rfl (by decide +kernel) (fun _ => rfl) (fun _ => rfl) ?_
  refine ax_pr dX10_init_128 fl_X10_54 (Or.inr ⟨fp_X10_10_6, rfl⟩) rfl (by decide) (by decide) rfl ?_
  refine ax_aload_n (i := 0) dX10_init_131 rfl rfl ?_
  refine ax_bipush (v := 10) dX10_init_132 (by decide) ?_
  refine ax_na (n := 22) (n2 := 23) (N' := 10) (t0 := 0) dX10_init_134 rfl (Or.inl rfl) (fun _ => rfl) aw_int rfl (by decide) (by decide) rfl (by decide) (by decide) (by decide) rfl (by decide +kernel) (fun _ => rfl) (fun _ => rfl) ?_
  refine ax_pr dX10_init_136 fl_X10_57 (Or.inr ⟨fp_X10_10_7, rfl⟩) rfl (by decide) (by decide) rfl ?_
  refine ax_aload_n (i := 0) dX10_init_139 rfl rfl ?_
  refine ax_bipush (v := 10) dX10_init_140 (by decide) ?_
  refine ax_na (n := 23) (n2 := 24) (N' := 10) (t0 := 0) dX10_init_142 rfl (Or.inl rfl) (fun _ => rfl) aw_int rfl (by decide) (by decide) rfl (by decide) (by decide) (by decide) rfl (by decide +kernel) (fun _ => rfl) (fun _ => rfl) ?_
  refine ax_pr dX10_init_144 fl_X10_60 (Or.inr ⟨fp_X10_10_8, rfl⟩) rfl (by decide) (by decide) rfl ?_
  refine ax_aload_n (i := 0) dX10_init_147 rfl rfl ?_
  refine ax_bipush (v := 8) dX10_init_148 (by decide) ?_
  refine ax_na (n := 24) (n2 := 25) (N' := 8) (t0 := 0) dX10_init_150 rfl (Or.inl rfl) (fun _ => rfl) aw_int rfl (by decide) (by decide) rfl (by decide) (by decide) (by decide) rfl (by decide +kernel) (fun _ => rfl) (fun _ => rfl) ?_
  refine ax_pr dX10_init_152 fl_X10_63 (Or.inr ⟨fp_X10_10_9, rfl⟩) rfl (by decide) (by decide) rfl ?_
  refine ax_aload_n (i := 0) dX10_init_155 rfl rfl ?_
  refine ax_bipush (v := 8) dX10_init_156 (by decide) ?_
  refine ax_na (n := 25) (n2 := 26) (N' := 8) (t0 := 0) dX10_init_158 rfl (Or.inl rfl) (fun _ => rfl) aw_int rfl (by decide) (by decide) rfl (by decide) (by decide) (by decide) rfl (by decide +kernel) (fun _ => rfl) (fun _ => rfl) ?_
  refine ax_pr dX10_init_160 fl_X10_66 (Or.inr ⟨fp_X10_10_10, rfl⟩) rfl (by decide) (by decide) rfl ?_
  refine ax_vret dX10_init_163 rfl (by decide) (by decide) ?_
  exact ⟨rfl, rfl, rfl, rfl⟩
theorem i_X10_26 : AC mX10_init 4 24 132 [.ref 26] (Zc 27 ((0, 0, 1) :: (1, 10, 25) :: (1, 9, 24) :: (1, 8, 23) :: (1, 7, 22) :: (1, 6, 21) :: (1, 5, 20) :: (1, 4, 19) :: (1, 3, 18) :: (1, 2, 17) :: (1, 1, 10) :: (10, 0, 11) :: (10, 1, 12) :: (10, 2, 13) :: (10, 3, 14) :: (10, 4, 15) :: (10, 5, 16) :: (1, 0, 2) :: (2, 6, 9) :: (2, 5, 8) :: (2, 4, 7) :: (2, 3, 6) :: (2, 2, 5) :: (2, 1, 4) :: (2, 0, 3) :: [])) G00 L00 (DQ none (Zc 51 ((26, 10, 50) :: (26, 9, 49) :: (26, 8, 48) :: (26, 7, 47) :: (26, 6, 46) :: (26, 5, 45) :: (26, 4, 44) :: (26, 3, 43) :: (26, 2, 42) :: (26, 1, 35) :: (35, 0, 36) :: (35, 1, 37) :: (35, 2, 38) :: (35, 3, 39) :: (35, 4, 40) :: (35, 5, 41) :: (26, 0, 27) :: (27, 6, 34) :: (27, 5, 33) :: (27, 4, 32) :: (27, 3, 31) :: (27, 2, 30) :: (27, 1, 29) :: (27, 0, 28) :: (0, 0, 1) :: (1, 10, 25) :: (1, 9, 24) :: (1, 8, 23) :: (1, 7, 22) :: (1, 6, 21) :: (1, 5, 20) :: (1, 4, 19) :: (1, 3, 18) :: (1, 2, 17) :: (1, 1, 10) :: (10, 0, 11) :: (10, 1, 12) :: (10, 2, 13) :: (10, 3, 14) :: (10, 4, 15) :: (10, 5, 16) :: (1, 0, 2) :: (2, 6, 9) :: (2, 5, 8) :: (2, 4, 7) :: (2, 3, 6) :: (2, 2, 5) :: (2, 1, 4) :: (2, 0, 3) :: [])) G00 L00) := by
  refine AC.intro (by decide +kernel) (Nat.le_of_ble_eq_true rfl) ?_
  refine ax_lv [(0, .ref 26)] ⟨rfl, trivial⟩ ?_
  refine ax_aload_n (i := 0) dX10_init_0 rfl rfl ?_
  refine ax_objI dX10_init_1 lo_X10_3 oi_inst oi_code (Nat.le_of_ble_eq_true rfl) (Nat.le_of_ble_eq_true rfl) ?_
  refine ax_aload_n (i := 0) dX10_init_4 rfl rfl ?_
  refine ax_bipush (v := 7) dX10_init_5 (by decide) ?_
  refine ax_nr (n := 27) (n2 := 28) (N' := 7) dX10_init_7 cw_X10_9 rfl (by decide) rfl (by decide) (by decide) (by decide) rfl (by decide +kernel) (fun _ => rfl) (fun _ => rfl) ?_
  refine ax_dup dX10_init_10 rfl ?_
  refine ax_iconst (v := 0) dX10_init_11 (by decide) ?_
  refine ax_no (n := 28) (n2 := 29) dX10_init_12 cn_X10_9 (by decide) rfl (by decide) (by decide) (by decide) rfl (by decide +kernel) (fun _ => rfl) (fun _ => rfl) ?_
  refine ax_dup dX10_init_15 rfl ?_
  refine ax_callIN dX10_init_16 li_X10_11 (i_X5 28) rfl rfl (Nat.le_of_ble_eq_true rfl) (Nat.le_of_ble_eq_true rfl) (by decide) (by decide) ?_
  refine ax_ar dX10_init_19 (by decide) rfl rfl (by decide) (by decide) (by decide) rfl ⟨_, rfl, Or.inl rfl⟩ ?_
  refine ax_dup dX10_init_20 rfl ?_
  refine ax_iconst (v := 1) dX10_init_21 (by decide) ?_
  refine ax_no (n := 29) (n2 := 30) dX10_init_22 cn_X10_12 (by decide) rfl (by decide) (by decide) (by decide) rfl (by decide +kernel) (fun _ => rfl) (fun _ => rfl) ?_
  refine ax_dup dX10_init_25 rfl ?_
  refine ax_callIN dX10_init_26 li_X10_14 (i_X2 29) rfl rfl (Nat.le_of_ble_eq_true rfl) (Nat.le_of_ble_eq_true rfl) (by decide) (by decide) ?_
  refine ax_ar dX10_init_29 (by decide) rfl rfl (by decide) (by decide) (by decide) rfl ⟨_, rfl, Or.inr (by decide +kernel)⟩ ?_
  refine ax_dup dX10_init_30 rfl ?_
  refine ax_iconst (v := 2) dX10_init_31 (by decide) ?_
  refine ax_no (n := 30) (n2 := 31) dX10_init_32 cn_X10_15 (by decide) rfl (by decide) (by decide) (by decide) rfl (by decide +kernel) (fun _ => rfl) (fun _ => rfl) ?_
  refine ax_dup dX10_init_35 rfl ?_
  refine ax_callIN dX10_init_36 li_X10_17 (i_X9 30) rfl rfl (Nat.le_of_ble_eq_true rfl) (Nat.le_of_ble_eq_true rfl) (by decide) (by decide) ?_
  refine ax_ar dX10_init_39 (by decide) rfl rfl (by decide) (by decide) (by decide) rfl ⟨_, rfl, Or.inr (by decide +kernel)⟩ ?_
  refine ax_dup dX10_init_40 rfl ?_
  refine ax_iconst (v := 3) dX10_init_41 (by decide) ?_
  refine ax_no (n := 31) (n2 := 32) dX10_init_42 cn_X10_18 (by decide) rfl (by decide) (by decide) (by decide) rfl (by decide +kernel) (fun _ => rfl) (fun _ => rfl) ?_
  refine ax_dup dX10_init_45 rfl ?_
  refine ax_callIN dX10_init_46 li_X10_20 (i_X3 31) rfl rfl (Nat.le_of_ble_eq_true rfl) (Nat.le_of_ble_eq_true rfl) (by decide) (by decide) ?_
  refine ax_ar dX10_init_49 (by decide) rfl rfl (by decide) (by decide) (by decide) rfl ⟨_, rfl, Or.inr (by decide +kernel)⟩ ?_
  refine ax_dup dX10_init_50 rfl ?_
  refine ax_iconst (v := 4) dX10_init_51 (by decide) ?_
  refine ax_no (n := 32) (n2 := 33) dX10_init_52 cn_X10_21 (by decide) rfl (by decide) (by decide) (by decide) rfl (by decide +kernel) (fun _ => rfl) (fun _ => rfl) ?_
  refine ax_dup dX10_init_55 rfl ?_
  refine ax_callIN dX10_init_56 li_X10_23 (i_X1 32) rfl rfl (Nat.le_of_ble_eq_true rfl) (Nat.le_of_ble_eq_true rfl) (by decide) (by decide) ?_
  refine ax_ar dX10_init_59 (by decide) rfl rfl (by decide) (by decide) (by decide) rfl ⟨_, rfl, Or.inr (by decide +kernel)⟩ ?_
  refine ax_dup dX10_init_60 rfl ?_
  refine ax_iconst (v := 5) dX10_init_61 (by decide) ?_
  refine ax_no (n := 33) (n2 := 34) dX10_init_62 cn_X10_24 (by decide) rfl (by decide) (by decide) (by decide) rfl (by decide +kernel) (fun _ => rfl) (fun _ => rfl) ?_
  refine ax_dup dX10_init_65 rfl ?_
  refine ax_callIN dX10_init_66 li_X10_26 (i_X8 33) rfl rfl (Nat.le_of_ble_eq_true rfl) (Nat.le_of_ble_eq_true rfl) (by decide) (by decide) ?_
  refine ax_ar dX10_init_69 (by decide) rfl rfl (by decide) (by decide) (by decide) rfl ⟨_, rfl, Or.inr (by decide +kernel)⟩ ?_
  refine ax_dup dX10_init_70 rfl ?_
  refine ax_bipush (v := 6) dX10_init_71 (by decide) ?_
  refine ax_no (n := 34) (n2 := 35) dX10_init_73 cn_X10_27 (by decide) rfl (by decide) (by decide) (by decide) rfl (by decide +kernel) (fun _ => rfl) (fun _ => rfl) ?_
  refine ax_dup dX10_init_76 rfl ?_
  refine ax_callIN dX10_init_77 li_X10_29 (i_X7 34) rfl rfl (Nat.le_of_ble_eq_true rfl) (Nat.le_of_ble_eq_true rfl) (by decide) (by decide) ?_
  refine ax_ar dX10_init_80 (by decide) rfl rfl (by decide) (by decide) (by decide) rfl ⟨_, rfl, Or.inr (by decide +kernel)⟩ ?_
  refine ax_pr dX10_init_81 fl_X10_30 (Or.inr ⟨fp_X10_10_0, rfl⟩) rfl (by decide) (by decide) rfl ?_
  refine ax_aload_n (i := 0) dX10_init_84 rfl rfl ?_
  refine ax_bipush (v := 6) dX10_init_85 (by decide) ?_
  refine ax_bipush (v := 10) dX10_init_87 (by decide) ?_
  refine ax_nm (n := 35) (n2 := 42) (ty := .int) (K' := 10) dX10_init_89 cw_X10_36 aw_int (Or.inl ⟨rfl, rfl, rfl⟩) rfl rfl (by decide) rfl (by decide) (by decide) (by decide) rfl (by decide +kernel) (by decide +kernel) (fun _ _ _ _ => rfl) (fun _ _ _ _ => rfl) ?_
  refine ax_pr dX10_init_93 fl_X10_38 (Or.inr ⟨fp_X10_10_1, rfl⟩) rfl (by decide) (by decide) rfl ?_
  refine ax_aload_n (i := 0) dX10_init_96 rfl rfl ?_
  refine ax_iconst (v := 4) dX10_init_97 (by decide) ?_
  refine ax_na (n := 42) (n2 := 43) (N' := 4) (t0 := 0) dX10_init_98 rfl (Or.inl rfl) (fun _ => rfl) aw_int rfl (by decide) (by decide) rfl (by decide) (by decide) (by decide) rfl (by decide +kernel) (fun _ => rfl) (fun _ => rfl) ?_
  refine ax_pr dX10_init_100 fl_X10_41 (Or.inr ⟨fp_X10_10_2, rfl⟩) rfl (by decide) (by decide) rfl ?_
  refine ax_aload_n (i := 0) dX10_init_103 rfl rfl ?_
  refine ax_iconst (v := 4) dX10_init_104 (by decide) ?_
  refine ax_na (n := 43) (n2 := 44) (N' := 4) (t0 := 0) dX10_init_105 rfl (Or.inl rfl) (fun _ => rfl) aw_int rfl (by decide) (by decide) rfl (by decide) (by decide) (by decide) rfl (by decide +kernel) (fun _ => rfl) (fun _ => rfl) ?_
  refine ax_pr dX10_init_107 fl_X10_45 (Or.inr ⟨fp_X10_10_3, rfl⟩) rfl (by decide) (by decide) rfl ?_
  refine ax_aload_n (i := 0) dX10_init_110 rfl rfl ?_
  refine ax_iconst (v := 5) dX10_init_111 (by decide) ?_
  refine ax_na (n := 44) (n2 := 45) (N' := 5) (t0 := 0) dX10_init_112 rfl (Or.inl rfl) (fun _ => rfl) aw_int rfl (by decide) (by decide) rfl (by decide) (by decide) (by decide) rfl (by decide +kernel) (fun _ => rfl) (fun _ => rfl) ?_
  refine ax_pr dX10_init_114 fl_X10_48 (Or.inr ⟨fp_X10_10_4, rfl⟩) rfl (by decide) (by decide) rfl ?_
  refine ax_aload_n (i := 0) dX10_init_117 rfl rfl ?_
  refine ax_iconst (v := 5) dX10_init_118 (by decide) ?_
  refine ax_na (n := 45) (n2 := 46) (N' := 5) (t0 := 0) dX10_init_119 rfl (Or.inl rfl) (fun _ => rfl) aw_int rfl (by decide) (by decide) rfl (by decide) (by decide) (by decide) rfl (by decide +kernel) (fun _ => rfl) (fun _ => rfl) ?_
  refine ax_pr dX10_init_121 fl_X10_51 (Or.inr ⟨fp_X10_10_5, rfl⟩) rfl (by decide) (by decide) rfl ?_
  refine ax_aload_n (i := 0) dX10_init_124 rfl rfl ?_
  refine ax_iconst (v := 5) dX10_init_125 (by decide) ?_
  refine ax_na (n := 46) (n2 := 47) (N' := 5) (t0 := 0) dX10_init_126 rfl (Or.inl rfl) (fun _ => rfl) aw_int rfl (by decide) (by decide) rfl (by decide) (by decide) (by decide) rfl (by decide +kernel) (fun _ => rfl) (fun _ => rfl) ?_
  refine ax_pr dX10_init_128 fl_X10_54 (Or.inr ⟨fp_X10_10_6, rfl⟩) rfl (by decide) (by decide) rfl ?_
  refine ax_aload_n (i := 0) dX10_init_131 rfl rfl ?_
  refine ax_bipush (v := 10) dX10_init_132 (by decide) ?_
  refine ax_na (n := 47) (n2 := 48) (N' := 10) (t0 := 0) dX10_init_134 rfl (Or.inl rfl) (fun _ => rfl) aw_int rfl (by decide) (by decide) rfl (by decide) (by decide) (by decide) rfl (by decide +kernel) (fun _ => rfl) (fun _ => rfl) ?_
  refine ax_pr dX10_init_136 fl_X10_57 (Or.inr ⟨fp_X10_10_7, rfl⟩) rfl (by decide) (by decide) rfl ?_
  refine ax_aload_n (i := 0) dX10_init_139 rfl rfl ?_
  refine ax_bipush (v := 10) dX10_init_140 (by decide) ?_
  refine ax_na (n := 48) (n2 := 49) (N' := 10) (t0 := 0) dX10_init_142 rfl (Or.inl rfl) (fun _ => rfl) aw_int rfl (by decide) (by decide) rfl (by decide) (by decide) (by decide) rfl (by decide +kernel) (fun _ => rfl) (fun _ => rfl) ?_
  refine ax_pr dX10_init_144 fl_X10_60 (Or.inr ⟨fp_X10_10_8, rfl⟩) rfl (by decide) (by decide) rfl ?_
  refine ax_aload_n (i := 0) dX10_init_147 rfl rfl ?_
  refine ax_bipush (v := 8) dX10_init_148 (by decide) ?_
  refine ax_na (n := 49) (n2 := 50) (N' := 8) (t0 := 0) dX10_init_150 rfl (Or.inl rfl) (fun _ => rfl) aw_int rfl (by decide) (by decide) rfl (by decide) (by decide) (by decide) rfl (by decide +kernel) (fun _ => rfl) (fun _ => rfl) ?_
  refine ax_pr dX10_init_152 fl_X10_63 (Or.inr ⟨fp_X10_10_9, rfl⟩) rfl (by decide) (by decide) rfl ?_
  refine ax_aload_n (i := 0) dX10_init_155 rfl rfl ?_
  refine ax_bipush (v := 8) dX10_init_156 (by decide) ?_
  refine ax_na (n := 50) (n2 := 51) (N' := 8) (t0 := 0) dX10_init_158 rfl (Or.inl rfl) (fun _ => rfl) aw_int rfl (by decide) (by decide) rfl (by decide) (by decide) (by decide) rfl (by decide +kernel) (fun _ => rfl) (fun _ => rfl) ?_
  refine ax_pr dX10_init_160 fl_X10_66 (Or.inr ⟨fp_X10_10_10, rfl⟩) rfl (by decide) (by decide) rfl ?_
  refine ax_vret dX10_init_163 rfl (by decide) (by decide) ?_
  exact ⟨rfl, rfl, rfl, rfl⟩
theorem i_X10_51 : AC mX10_init 4 24 132 [.ref 51] (Zc 52 ((0, 1, 26) :: (26, 10, 50) :: (26, 9, 49) :: (26, 8, 48) :: (26, 7, 47) :: (26, 6, 46) :: (26, 5, 45) :: (26, 4, 44) :: (26, 3, 43) :: (26, 2, 42) :: (26, 1, 35) :: (35, 0, 36) :: (35, 1, 37) :: (35, 2, 38) :: (35, 3, 39) :: (35, 4, 40) :: (35, 5, 41) :: (26, 0, 27) :: (27, 6, 34) :: (27, 5, 33) :: (27, 4, 32) :: (27, 3, 31) :: (27, 2, 30) :: (27, 1, 29) :: (27, 0, 28) :: (0, 0, 1) :: (1, 10, 25) :: (1, 9, 24) :: (1, 8, 23) :: (1, 7, 22) :: (1, 6, 21) :: (1, 5, 20) :: (1, 4, 19) :: (1, 3, 18) :: (1, 2, 17) :: (1, 1, 10) :: (10, 0, 11) :: (10, 1, 12) :: (10, 2, 13) :: (10, 3, 14) :: (10, 4, 15) :: (10, 5, 16) :: (1, 0, 2) :: (2, 6, 9) :: (2, 5, 8) :: (2, 4, 7) :: (2, 3, 6) :: (2, 2, 5) :: (2, 1, 4) :: (2, 0, 3) :: [])) G00 L00 (DQ none (Zc 76 ((51, 10, 75) :: (51, 9, 74) :: (51, 8, 73) :: (51, 7, 72) :: (51, 6, 71) :: (51, 5, 70) :: (51, 4, 69) :: (51, 3, 68) :: (51, 2, 67) :: (51, 1, 60) :: (60, 0, 61) :: (60, 1, 62) :: (60, 2, 63) :: (60, 3, 64) :: (60, 4, 65) :: (60, 5, 66) :: (51, 0, 52) :: (52, 6, 59) :: (52, 5, 58) :: (52, 4, 57) :: (52, 3, 56) :: (52, 2, 55) :: (52, 1, 54) :: (52, 0, 53) :: (0, 1, 26) :: (26, 10, 50) :: (26, 9, 49) :: (26, 8, 48) :: (26, 7, 47) :: (26, 6, 46) :: (26, 5, 45) :: (26, 4, 44) :: (26, 3, 43) :: (26, 2, 42) :: (26, 1, 35) :: (35, 0, 36) :: (35, 1, 37) :: (35, 2, 38) :: (35, 3, 39) :: (35, 4, 40) :: (35, 5, 41) :: (26, 0, 27) :: (27, 6, 34) :: (27, 5, 33) :: (27, 4, 32) :: (27, 3, 31) :: (27, 2, 30) :: (27, 1, 29) :: (27, 0, 28) :: (0, 0, 1) :: (1, 10, 25) :: (1, 9, 24) :: (1, 8, 23) :: (1, 7, 22) :: (1, 6, 21) :: (1, 5, 20) :: (1, 4, 19) :: (1, 3, 18) :: (1, 2, 17) :: (1, 1, 10) :: (10, 0, 11) :: (10, 1, 12) :: (10, 2, 13) :: (10, 3, 14) :: (10, 4, 15) :: (10, 5, 16) :: (1, 0, 2) :: (2, 6, 9) :: (2, 5, 8) :: (2, 4, 7) :: (2, 3, 6) :: (2, 2, 5) :: (2, 1, 4) :: (2, 0, 3) :: [])) G00 L00) := by
  refine AC.intro (by decide +kernel) (Nat.le_of_ble_eq_true rfl) ?_
  refine ax_lv [(0, .ref 51)] ⟨rfl, trivial⟩ ?_
  refine ax_aload_n (i := 0) dX10_init_0 rfl rfl ?_
  refine ax_objI dX10_init_1 lo_X10_3 oi_inst oi_code (Nat.le_of_ble_eq_true rfl) (Nat.le_of_ble_eq_true rfl) ?_
  refine ax_aload_n (i := 0) dX10_init_4 rfl rfl ?_
  refine ax_bipush (v := 7) dX10_init_5 (by decide) ?_
  refine ax_nr (n := 52) (n2 := 53) (N' := 7) dX10_init_7 cw_X10_9 rfl (by decide) rfl (by decide) (by decide) (by decide) rfl (by decide +kernel) (fun _ => rfl) (fun _ => rfl) ?_
  refine ax_dup dX10_init_10 rfl ?_
  refine ax_iconst (v := 0) dX10_init_11 (by decide) ?_
  refine ax_no (n := 53) (n2 := 54) dX10_init_12 cn_X10_9 (by decide) rfl (by decide) (by decide) (by decide) rfl (by decide +kernel) (fun _ => rfl) (fun _ => rfl) ?_
  refine ax_dup dX10_init_15 rfl ?_
  refine ax_callIN dX10_init_16 li_X10_11 (i_X5 53) rfl rfl (Nat.le_of_ble_eq_true rfl) (Nat.le_of_ble_eq_true rfl) (by decide) (by decide) ?_
  refine ax_ar dX10_init_19 (by decide) rfl rfl (by decide) (by decide) (by decide) rfl ⟨_, rfl, Or.inl rfl⟩ ?_
  refine ax_dup dX10_init_20 rfl ?_
  refine ax_iconst (v := 1) dX10_init_21 (by decide) ?_
  refine ax_no (n := 54) (n2 := 55) dX10_init_22 cn_X10_12 (by decide) rfl (by decide) (by decide) (by decide) rfl (by decide +kernel) (fun _ => rfl) (fun _ => rfl) ?_
  refine ax_dup dX10_init_25 rfl ?_
  refine ax_callIN dX10_init_26 li_X10_14 (i_X2 54) rfl rfl (Nat.le_of_ble_eq_true rfl) (Nat.le_of_ble_eq_true rfl) (by decide) (by decide) ?_
  refine ax_ar dX10_init_29 (by decide) rfl rfl (by decide) (by decide) (by decide) rfl ⟨_, rfl, Or.inr (by decide +kernel)⟩ ?_
  refine ax_dup dX10_init_30 rfl ?_
  refine ax_iconst (v := 2) dX10_init_31 (by decide) ?_
  refine ax_no (n := 55) (n2 := 56) dX10_init_32 cn_X10_15 (by decide) rfl (by decide) (by decide) (by decide) rfl (by decide +kernel) (fun _ => rfl) (fun _ => rfl) ?_
  refine ax_dup dX10_init_35 rfl ?_
  refine ax_callIN dX10_init_36 li_X10_17 (i_X9 55) rfl rfl (Nat.le_of_ble_eq_true rfl) (Nat.le_of_ble_eq_true rfl) (by decide) (by decide) ?_
  refine ax_ar dX10_init_39 (by decide) rfl rfl (by decide) (by decide) (by decide) rfl ⟨_, rfl, Or.inr (by decide +kernel)⟩ ?_
  refine ax_dup dX10_init_40 rfl ?_
  refine ax_iconst (v := 3) dX10_init_41 (by decide) ?_
  refine ax_no (n := 56) (n2 := 57) dX10_init_42 cn_X10_18 (by decide) rfl (by decide) (by decide) (by decide) rfl (by decide +kernel) (fun _ => rfl) (fun _ => rfl) ?_
  refine ax_dup dX10_init_45 rfl ?_
  refine ax_callIN dX10_init_46 li_X10_20 (i_X3 56) rfl rfl (Nat.le_of_ble_eq_true rfl) (Nat.le_of_ble_eq_true rfl) (by decide) (by decide) ?_
  refine ax_ar dX10_init_49 (by decide) rfl rfl (by decide) (by decide) (by decide) rfl ⟨_, rfl, Or.inr (by decide +kernel)⟩ ?_
  refine ax_dup dX10_init_50 rfl ?_
  refine ax_iconst (v := 4) dX10_init_51 (by decide) ?_
  refine ax_no (n := 57) (n2 := 58) dX10_init_52 cn_X10_21 (by decide) rfl (by decide) (by decide) (by decide) rfl (by decide +kernel) (fun _ => rfl) (fun _ => rfl) ?_
  refine ax_dup dX10_init_55 rfl ?_
  refine ax_callIN dX10_init_56 li_X10_23 (i_X1 57) rfl rfl (Nat.le_of_ble_eq_true rfl) (Nat.le_of_ble_eq_true rfl) (by decide) (by decide) ?_
  refine ax_ar dX10_init_59 (by decide) rfl rfl (by decide) (by decide) (by decide) rfl ⟨_, rfl, Or.inr (by decide +kernel)⟩ ?_
  refine ax_dup dX10_init_60 rfl ?_
  refine ax_iconst (v := 5) dX10_init_61 (by decide) ?_
  refine ax_no (n := 58) (n2 := 59) dX10_init_62 cn_X10_24 (by decide) rfl (by decide) (by decide) (by decide) rfl (by decide +kernel) (fun _ => rfl) (fun _ => rfl) ?_
  refine ax_dup dX10_init_65 rfl ?_
  refine ax_callIN dX10_init_66 li_X10_26 (i_X8 58) rfl rfl (Nat.le_of_ble_eq_true rfl) (Nat.le_of_ble_eq_true rfl) (by decide) (by decide) ?_
  refine ax_ar dX10_init_69 (by decide) rfl rfl (by decide) (by decide) (by decide) rfl ⟨_, rfl, Or.inr (by decide +kernel)⟩ ?_
  refine ax_dup dX10_init_70 rfl ?_
  refine ax_bipush (v := 6) dX10_init_71 (by decide) ?_
  refine ax_no (n := 59) (n2 := 60) dX10_init_73 cn_X10_27 (by decide) rfl (by decide) (by decide) (by decide) rfl (by decide +kernel) (fun _ => rfl) (fun _ => rfl) ?_
  refine ax_dup dX10_init_76 rfl ?_
  refine ax_callIN dX10_init_77 li_X10_29 (i_X7 59) rfl rfl (Nat.le_of_ble_eq_true rfl) (Nat.le_of_ble_eq_true rfl) (by decide) (by decide) ?_
  refine ax_ar dX10_init_80 (by decide) rfl rfl (by decide) (by decide) (by decide) rfl ⟨_, rfl, Or.inr (by decide +kernel)⟩ ?_
  refine ax_pr dX10_init_81 fl_X10_30 (Or.inr ⟨fp_X10_10_0, rfl⟩) rfl (by decide) (by decide) rfl ?_
  refine ax_aload_n (i := 0) dX10_init_84 rfl rfl ?_
  refine ax_bipush (v := 6) dX10_init_85 (by decide) ?_
  refine ax_bipush (v := 10) dX10_init_87 (by decide) ?_
  refine ax_nm (n := 60) (n2 := 67) (ty := .int) (K' := 10) dX10_init_89 cw_X10_36 aw_int (Or.inl ⟨rfl, rfl, rfl⟩) rfl rfl (by decide) rfl (by decide) (by decide) (by decide) rfl (by decide +kernel) (by decide +kernel) (fun _ _ _ _ => rfl) (fun _ _ _ _ => rfl) ?_
  refine ax_pr dX10_init_93 fl_X10_38 (Or.inr ⟨fp_X10_10_1, rfl⟩) rfl (by decide) (by decide) rfl ?_
  refine ax_aload_n (i := 0) dX10_init_96 rfl rfl ?_
  refine ax_iconst (v := 4) dX10_init_97 (by decide) ?_
  refine ax_na (n := 67) (n2 := 68) (N' := 4) (t0 := 0) dX10_init_98 rfl (Or.inl rfl) (fun _ => rfl) aw_int rfl (by decide) (by decide) rfl (by decide) (by decide) (by decide) rfl (by decide +kernel) (fun _ => rfl) (fun _ => rfl) ?_
  refine ax_pr dX10_init_100 fl_X10_41 (Or.inr ⟨fp_X10_10_2, rfl⟩) rfl (by decide) (by decide) rfl ?_
  refine ax_aload_n (i := 0) dX10_init_103 rfl rfl ?_
  refine ax_iconst (v := 4) dX10_init_104 (by decide) ?_
  refine ax_na (n := 68) (n2 := 69) (N' := 4) (t0 := 0) dX10_init_105 rfl (Or.inl rfl) (fun _ => rfl) aw_int rfl (by decide) (by decide) rfl (by decide) (by decide) (by decide) rfl (by decide +kernel) (fun _ => rfl) (fun _ => rfl) ?_
  refine ax_pr dX10_init_107 fl_X10_45 (Or.inr ⟨fp_X10_10_3, rfl⟩) rfl (by decide) (by decide) rfl ?_
  refine ax_aload_n (i := 0) dX10_init_110 rfl rfl ?_
  refine ax_iconst (v := 5) dX10_init_111 (by decide) ?_
  refine ax_na (n := 69) (n2 := 70) (N' := 5) (t0 := 0) dX10_init_112 rfl (Or.inl rfl) (fun _ => rfl) aw_int rfl (by decide) (by decide) rfl (by decide) (by decide) (by decide) rfl (by decide +kernel) (fun _ => rfl) (fun _ => rfl) ?_
  refine ax_pr dX10_init_114 fl_X10_48 (Or.inr ⟨fp_X10_10_4, rfl⟩) rfl (by decide) (by decide) rfl ?_
  refine ax_aload_n (i := 0) dX10_init_117 rfl rfl ?_
  refine ax_iconst (v := 5) dX10_init_118 (by decide) ?_
  refine ax_na (n := 70) (n2 := 71) (N' := 5) (t0 := 0) dX10_init_119 rfl (Or.inl rfl) (fun _ => rfl) aw_int rfl (by decide) (by decide) rfl (by decide) (by decide) (by decide) rfl (by decide +kernel) (fun _ => rfl) (fun _ => rfl) ?_
  refine ax_pr dX10_init_121 fl_X10_51 (Or.inr ⟨fp_X10_10_5, rfl⟩) rfl (by decide) (by decide) rfl ?_
  refine ax_aload_n (i := 0) dX10_init_124 rfl rfl ?_
  refine ax_iconst (v := 5) dX10_init_125 (by decide) ?_
  refine ax_na (n := 71) (n2 := 72) (N' := 5) (t0 := 0) dX10_init_126 rfl (Or.inl rfl) (fun _ => rfl) aw_int rfl (by decide) (by decide) rfl (by decide) (by decide) (by decide) rfl (by decide +kernel) (fun _ => rfl) (fun _ => rfl) ?_
  refine ax_pr dX10_init_128 fl_X10_54 (Or.inr ⟨fp_X10_10_6, rfl⟩) rfl (by decide) (by decide) rfl ?_
  refine ax_aload_n (i := 0) dX10_init_131 rfl rfl ?_
  refine ax_bipush (v := 10) dX10_init_132 (by decide) ?_
  refine ax_na (n := 72) (n2 := 73) (N' := 10) (t0 := 0) dX10_init_134 rfl (Or.inl rfl) (fun _ => rfl) aw_int rfl (by decide) (by decide) rfl (by decide) (by decide) (by decide) rfl (by decide +kernel) (fun _ => rfl) (fun _ => rfl) ?_
  refine ax_pr dX10_init_136 fl_X10_57 (Or.inr ⟨fp_X10_10_7, rfl⟩) rfl (by decide) (by decide) rfl ?_
  refine ax_aload_n (i := 0) dX10_init_139 rfl rfl ?_
  refine ax_bipush (v := 10) dX10_init_140 (by decide) ?_
  refine ax_na (n := 73) (n2 := 74) (N' := 10) (t0 := 0) dX10_init_142 rfl (Or.inl rfl) (fun _ => rfl) aw_int rfl (by decide) (by decide) rfl (by decide) (by decide) (by decide) rfl (by decide +kernel) (fun _ => rfl) (fun _ => rfl) ?_
  refine ax_pr dX10_init_144 fl_X10_60 (Or.inr ⟨fp_X10_10_8, rfl⟩) rfl (by decide) (by decide) rfl ?_
  refine ax_aload_n (i := 0) dX10_init_147 rfl rfl ?_
  refine ax_bipush (v := 8) dX10_init_148 (by decide) ?_
  refine ax_na (n := 74) (n2 := 75) (N' := 8) (t0 := 0) dX10_init_150 rfl (Or.inl rfl) (fun _ => rfl) aw_int rfl (by decide) (by decide) rfl (by decide) (by decide) (by decide) rfl (by decide +kernel) (fun _ => rfl) (fun _ => rfl) ?_
  refine ax_pr dX10_init_152 fl_X10_63 (Or.inr ⟨fp_X10_10_9, rfl⟩) rfl (by decide) (by decide) rfl ?_
  refine ax_aload_n (i := 0) dX10_init_155 rfl rfl ?_
  refine ax_bipush (v := 8) dX10_init_156 (by decide) ?_
  refine ax_na (n := 75) (n2 := 76) (N' := 8) (t0 := 0) dX10_init_158 rfl (Or.inl rfl) (fun _ => rfl) aw_int rfl (by decide) (by decide) rfl (by decide) (by decide) (by decide) rfl (by decide +kernel) (fun _ => rfl) (fun _ => rfl) ?_
  refine ax_pr dX10_init_160 fl_X10_66 (Or.inr ⟨fp_X10_10_10, rfl⟩) rfl (by decide) (by decide) rfl ?_
  refine ax_vret dX10_init_163 rfl (by decide) (by decide) ?_
  exact ⟨rfl, rfl, rfl, rfl⟩
theorem i_X4_76 : AC mX4_init 1 2 400 [.ref 76] (Zc 77 ((0, 2, 51) :: (51, 10, 75) :: (51, 9, 74) :: (51, 8, 73) :: (51, 7, 72) :: (51, 6, 71) :: (51, 5, 70) :: (51, 4, 69) :: (51, 3, 68) :: (51, 2, 67) :: (51, 1, 60) :: (60, 0, 61) :: (60, 1, 62) :: (60, 2, 63) :: (60, 3, 64) :: (60, 4, 65) :: (60, 5, 66) :: (51, 0, 52) :: (52, 6, 59) :: (52, 5, 58) :: (52, 4, 57) :: (52, 3, 56) :: (52, 2, 55) :: (52, 1, 54) :: (52, 0, 53) :: (0, 1, 26) :: (26, 10, 50) :: (26, 9, 49) :: (26, 8, 48) :: (26, 7, 47) :: (26, 6, 46) :: (26, 5, 45) :: (26, 4, 44) :: (26, 3, 43) :: (26, 2, 42) :: (26, 1, 35) :: (35, 0, 36) :: (35, 1, 37) :: (35, 2, 38) :: (35, 3, 39) :: (35, 4, 40) :: (35, 5, 41) :: (26, 0, 27) :: (27, 6, 34) :: (27, 5, 33) :: (27, 4, 32) :: (27, 3, 31) :: (27, 2, 30) :: (27, 1, 29) :: (27, 0, 28) :: (0, 0, 1) :: (1, 10, 25) :: (1, 9, 24) :: (1, 8, 23) :: (1, 7, 22) :: (1, 6, 21) :: (1, 5, 20) :: (1, 4, 19) :: (1, 3, 18) :: (1, 2, 17) :: (1, 1, 10) :: (10, 0, 11) :: (10, 1, 12) :: (10, 2, 13) :: (10, 3, 14) :: (10, 4, 15) :: (10, 5, 16) :: (1, 0, 2) :: (2, 6, 9) :: (2, 5, 8) :: (2, 4, 7) :: (2, 3, 6) :: (2, 2, 5) :: (2, 1, 4) :: (2, 0, 3) :: [])) G00 L00 (DQ none (Zc 79 ((76, 2, 78) :: (76, 0, 77) :: (0, 2, 51) :: (51, 10, 75) :: (51, 9, 74) :: (51, 8, 73) :: (51, 7, 72) :: (51, 6, 71) :: (51, 5, 70) :: (51, 4, 69) :: (51, 3, 68) :: (51, 2, 67) :: (51, 1, 60) :: (60, 0, 61) :: (60, 1, 62) :: (60, 2, 63) :: (60, 3, 64) :: (60, 4, 65) :: (60, 5, 66) :: (51, 0, 52) :: (52, 6, 59) :: (52, 5, 58) :: (52, 4, 57) :: (52, 3, 56) :: (52, 2, 55) :: (52, 1, 54) :: (52, 0, 53) :: (0, 1, 26) :: (26, 10, 50) :: (26, 9, 49) :: (26, 8, 48) :: (26, 7, 47) :: (26, 6, 46) :: (26, 5, 45) :: (26, 4, 44) :: (26, 3, 43) :: (26, 2, 42) :: (26, 1, 35) :: (35, 0, 36) :: (35, 1, 37) :: (35, 2, 38) :: (35, 3, 39) :: (35, 4, 40) :: (35, 5, 41) :: (26, 0, 27) :: (27, 6, 34) :: (27, 5, 33) :: (27, 4, 32) :: (27, 3, 31) :: (27, 2, 30) :: (27, 1, 29) :: (27, 0, 28) :: (0, 0, 1) :: (1, 10, 25) :: (1, 9, 24) :: (1, 8, 23) :: (1, 7, 22) :: (1, 6, 21) :: (1, 5, 20) :: (1, 4, 19) :: (1, 3, 18) :: (1, 2, 17) :: (1, 1, 10) :: (10, 0, 11) :: (10, 1, 12) :: (10, 2, 13) :: (10, 3, 14) :: (10, 4, 15) :: (10, 5, 16) :: (1, 0, 2) :: (2, 6, 9) :: (2, 5, 8) :: (2, 4, 7) :: (2, 3, 6) :: (2, 2, 5) :: (2, 1, 4) :: (2, 0, 3) :: [])) G00 L00) := by
  refine AC.intro (by decide +kernel) (Nat.le_of_ble_eq_true rfl) ?_
  refine ax_lv [(0, .ref 76)] ⟨rfl, trivial⟩ ?_
  refine ax_aload_n (i := 0) dX4_init_0 rfl rfl ?_
  refine ax_objI dX4_init_1 lo_X4_3 oi_inst oi_code (Nat.le_of_ble_eq_true rfl) (Nat.le_of_ble_eq_true rfl) ?_
  refine ax_aload_n (i := 0) dX4_init_4 rfl rfl ?_
  refine ax_bipush (v := 100) dX4_init_5 (by decide) ?_
  refine ax_na (n := 77) (n2 := 78) (N' := 100) (t0 := 2) dX4_init_7 rfl (Or.inl rfl) (fun _ => rfl) aw_byte rfl (by decide) (by decide) rfl (by decide) (by decide) (by decide) rfl (by decide +kernel) (fun _ => rfl) (fun _ => rfl) ?_
  refine ax_pr dX4_init_9 fl_X4_9 (Or.inr ⟨fp_X4_4_0, rfl⟩) rfl (by decide) (by decide) rfl ?_
  refine ax_aload_n (i := 0) dX4_init_12 rfl rfl ?_
  refine ax_sipush (v := 300) dX4_init_13 (by decide) ?_
  refine ax_na (n := 78) (n2 := 79) (N' := 300) (t0 := 0) dX4_init_16 rfl (Or.inl rfl) (fun _ => rfl) aw_int rfl (by decide) (by decide) rfl (by decide) (by decide) (by decide) rfl (by decide +kernel) (fun _ => rfl) (fun _ => rfl) ?_
  refine ax_pr dX4_init_18 fl_X4_15 (Or.inr ⟨fp_X4_4_2, rfl⟩) rfl (by decide) (by decide) rfl ?_
  refine ax_vret dX4_init_21 rfl (by decide) (by decide) ?_
  exact ⟨rfl, rfl, rfl, rfl⟩
theorem i_X0_79 : AC mX0_init 1 1 20 [.ref 79] (Zc 80 ((0, 4, 76) :: (76, 2, 78) :: (76, 0, 77) :: (0, 2, 51) :: (51, 10, 75) :: (51, 9, 74) :: (51, 8, 73) :: (51, 7, 72) :: (51, 6, 71) :: (51, 5, 70) :: (51, 4, 69) :: (51, 3, 68) :: (51, 2, 67) :: (51, 1, 60) :: (60, 0, 61) :: (60, 1, 62) :: (60, 2, 63) :: (60, 3, 64) :: (60, 4, 65) :: (60, 5, 66) :: (51, 0, 52) :: (52, 6, 59) :: (52, 5, 58) :: (52, 4, 57) :: (52, 3, 56) :: (52, 2, 55) :: (52, 1, 54) :: (52, 0, 53) :: (0, 1, 26) :: (26, 10, 50) :: (26, 9, 49) :: (26, 8, 48) :: (26, 7, 47) :: (26, 6, 46) :: (26, 5, 45) :: (26, 4, 44) :: (26, 3, 43) :: (26, 2, 42) :: (26, 1, 35) :: (35, 0, 36) :: (35, 1, 37) :: (35, 2, 38) :: (35, 3, 39) :: (35, 4, 40) :: (35, 5, 41) :: (26, 0, 27) :: (27, 6, 34) :: (27, 5, 33) :: (27, 4, 32) :: (27, 3, 31) :: (27, 2, 30) :: (27, 1, 29) :: (27, 0, 28) :: (0, 0, 1) :: (1, 10, 25) :: (1, 9, 24) :: (1, 8, 23) :: (1, 7, 22) :: (1, 6, 21) :: (1, 5, 20) :: (1, 4, 19) :: (1, 3, 18) :: (1, 2, 17) :: (1, 1, 10) :: (10, 0, 11) :: (10, 1, 12) :: (10, 2, 13) :: (10, 3, 14) :: (10, 4, 15) :: (10, 5, 16) :: (1, 0, 2) :: (2, 6, 9) :: (2, 5, 8) :: (2, 4, 7) :: (2, 3, 6) :: (2, 2, 5) :: (2, 1, 4) :: (2, 0, 3) :: [])) G00 L00 (DQ none (Zc 81 ((79, 0, 80) :: (0, 4, 76) :: (76, 2, 78) :: (76, 0, 77) :: (0, 2, 51) :: (51, 10, 75) :: (51, 9, 74) :: (51, 8, 73) :: (51, 7, 72) :: (51, 6, 71) :: (51, 5, 70) :: (51, 4, 69) :: (51, 3, 68) :: (51, 2, 67) :: (51, 1, 60) :: (60, 0, 61) :: (60, 1, 62) :: (60, 2, 63) :: (60, 3, 64) :: (60, 4, 65) :: (60, 5, 66) :: (51, 0, 52) :: (52, 6, 59) :: (52, 5, 58) :: (52, 4, 57) :: (52, 3, 56) :: (52, 2, 55) :: (52, 1, 54) :: (52, 0, 53) :: (0, 1, 26) :: (26, 10, 50) :: (26, 9, 49) :: (26, 8, 48) :: (26, 7, 47) :: (26, 6, 46) :: (26, 5, 45) :: (26, 4, 44) :: (26, 3, 43) :: (26, 2, 42) :: (26, 1, 35) :: (35, 0, 36) :: (35, 1, 37) :: (35, 2, 38) :: (35, 3, 39) :: (35, 4, 40) :: (35, 5, 41) :: (26, 0, 27) :: (27, 6, 34) :: (27, 5, 33) :: (27, 4, 32) :: (27, 3, 31) :: (27, 2, 30) :: (27, 1, 29) :: (27, 0, 28) :: (0, 0, 1) :: (1, 10, 25) :: (1, 9, 24) :: (1, 8, 23) :: (1, 7, 22) :: (1, 6, 21) :: (1, 5, 20) :: (1, 4, 19) :: (1, 3, 18) :: (1, 2, 17) :: (1, 1, 10) :: (10, 0, 11) :: (10, 1, 12) :: (10, 2, 13) :: (10, 3, 14) :: (10, 4, 15) :: (10, 5, 16) :: (1, 0, 2) :: (2, 6, 9) :: (2, 5, 8) :: (2, 4, 7) :: (2, 3, 6) :: (2, 2, 5) :: (2, 1, 4) :: (2, 0, 3) :: [])) G00 L00) := by
  refine AC.intro (by decide +kernel) (Nat.le_of_ble_eq_true rfl) ?_
  refine ax_lv [(0, .ref 79)] ⟨rfl, trivial⟩ ?_
  refine ax_aload_n (i := 0) dX0_init_0 rfl rfl ?_
  refine ax_objI dX0_init_1 lo_X0_3 oi_inst oi_code (Nat.le_of_ble_eq_true rfl) (Nat.le_of_ble_eq_true rfl) ?_
  refine ax_aload_n (i := 0) dX0_init_4 rfl rfl ?_
  refine ax_bipush (v := 20) dX0_init_5 (by decide) ?_
  refine ax_na (n := 80) (n2 := 81) (N' := 20) (t0 := 0) dX0_init_7 rfl (Or.inl rfl) (fun _ => rfl) aw_int rfl (by decide) (by decide) rfl (by decide) (by decide) (by decide) rfl (by decide +kernel) (fun _ => rfl) (fun _ => rfl) ?_
  refine ax_pr dX0_init_9 fl_X0_9 (Or.inr ⟨fp_X0_0_0, rfl⟩) rfl (by decide) (by decide) rfl ?_
  refine ax_vret dX0_init_12 rfl (by decide) (by decide) ?_
  exact ⟨rfl, rfl, rfl, rfl⟩
theorem i_X11 : AC mX11_init 5 90 1259 [.ref 0] (Zc 1 ([])) G00 L00 (DQ none (Zc 91 ((0, 9, 84) :: (84, 0, 85) :: (84, 1, 86) :: (84, 2, 87) :: (84, 3, 88) :: (84, 4, 89) :: (84, 5, 90) :: (0, 8, 83) :: (0, 7, 82) :: (0, 6, 81) :: (0, 5, 79) :: (79, 0, 80) :: (0, 4, 76) :: (76, 2, 78) :: (76, 0, 77) :: (0, 2, 51) :: (51, 10, 75) :: (51, 9, 74) :: (51, 8, 73) :: (51, 7, 72) :: (51, 6, 71) :: (51, 5, 70) :: (51, 4, 69) :: (51, 3, 68) :: (51, 2, 67) :: (51, 1, 60) :: (60, 0, 61) :: (60, 1, 62) :: (60, 2, 63) :: (60, 3, 64) :: (60, 4, 65) :: (60, 5, 66) :: (51, 0, 52) :: (52, 6, 59) :: (52, 5, 58) :: (52, 4, 57) :: (52, 3, 56) :: (52, 2, 55) :: (52, 1, 54) :: (52, 0, 53) :: (0, 1, 26) :: (26, 10, 50) :: (26, 9, 49) :: (26, 8, 48) :: (26, 7, 47) :: (26, 6, 46) :: (26, 5, 45) :: (26, 4, 44) :: (26, 3, 43) :: (26, 2, 42) :: (26, 1, 35) :: (35, 0, 36) :: (35, 1, 37) :: (35, 2, 38) :: (35, 3, 39) :: (35, 4, 40) :: (35, 5, 41) :: (26, 0, 27) :: (27, 6, 34) :: (27, 5, 33) :: (27, 4, 32) :: (27, 3, 31) :: (27, 2, 30) :: (27, 1, 29) :: (27, 0, 28) :: (0, 0, 1) :: (1, 10, 25) :: (1, 9, 24) :: (1, 8, 23) :: (1, 7, 22) :: (1, 6, 21) :: (1, 5, 20) :: (1, 4, 19) :: (1, 3, 18) :: (1, 2, 17) :: (1, 1, 10) :: (10, 0, 11) :: (10, 1, 12) :: (10, 2, 13) :: (10, 3, 14) :: (10, 4, 15) :: (10, 5, 16) :: (1, 0, 2) :: (2, 6, 9) :: (2, 5, 8) :: (2, 4, 7) :: (2, 3, 6) :: (2, 2, 5) :: (2, 1, 4) :: (2, 0, 3) :: [])) (up2 (up2 (up2 (up2 (up2 (up2 G00 82 0 (-1)) 82 1 (-1)) 82 2 (-1)) 82 3 (-1)) 82 4 (-1)) 82 5 (-1)) L00) := by
  refine AC.intro (by decide +kernel) (Nat.le_of_ble_eq_true rfl) ?_
  refine ax_lv [(0, .ref 0)] ⟨rfl, trivial⟩ ?_
  refine ax_aload_n (i := 0) dX11_init_0 rfl rfl ?_
  refine ax_objI dX11_init_1 lo_X11_5 oi_inst oi_code (Nat.le_of_ble_eq_true rfl) (Nat.le_of_ble_eq_true rfl) ?_
  refine ax_aload_n (i := 0) dX11_init_4 rfl rfl ?_
  refine ax_no (n := 1) (n2 := 2) dX11_init_5 cn_X11_11 (by decide) rfl (by decide) (by decide) (by decide) rfl (by decide +kernel) (fun _ => rfl) (fun _ => rfl) ?_
  refine ax_dup dX11_init_8 rfl ?_
  refine ax_callIN dX11_init_9 li_X11_13 (i_X10_1) rfl rfl (Nat.le_of_ble_eq_true rfl) (Nat.le_of_ble_eq_true rfl) (by decide) (by decide) ?_
  refine ax_pr dX11_init_12 fl_X11_14 (Or.inr ⟨fp_X11_11_0, rfl⟩) rfl (by decide) (by decide) rfl ?_
  refine ax_aload_n (i := 0) dX11_init_15 rfl rfl ?_
  refine ax_no (n := 26) (n2 := 27) dX11_init_16 cn_X11_11 (by decide) rfl (by decide) (by decide) (by decide) rfl (by decide +kernel) (fun _ => rfl) (fun _ => rfl) ?_
  refine ax_dup dX11_init_19 rfl ?_
  refine ax_callIN dX11_init_20 li_X11_13 (i_X10_26) rfl rfl (Nat.le_of_ble_eq_true rfl) (Nat.le_of_ble_eq_true rfl) (by decide) (by decide) ?_
  refine ax_pr dX11_init_23 fl_X11_18 (Or.inr ⟨fp_X11_11_1, rfl⟩) rfl (by decide) (by decide) rfl ?_
  refine ax_aload_n (i := 0) dX11_init_26 rfl rfl ?_
  refine ax_no (n := 51) (n2 := 52) dX11_init_27 cn_X11_11 (by decide) rfl (by decide) (by decide) (by decide) rfl (by decide +kernel) (fun _ => rfl) (fun _ => rfl) ?_
  refine ax_dup dX11_init_30 rfl ?_
  refine ax_callIN dX11_init_31 li_X11_13 (i_X10_51) rfl rfl (Nat.le_of_ble_eq_true rfl) (Nat.le_of_ble_eq_true rfl) (by decide) (by decide) ?_
  refine ax_pr dX11_init_34 fl_X11_21 (Or.inr ⟨fp_X11_11_2, rfl⟩) rfl (by decide) (by decide) rfl ?_
  refine ax_aload_n (i := 0) dX11_init_37 rfl rfl ?_
  refine ax_no (n := 76) (n2 := 77) dX11_init_38 cn_X11_24 (by decide) rfl (by decide) (by decide) (by decide) rfl (by decide +kernel) (fun _ => rfl) (fun _ => rfl) ?_
  refine ax_dup dX11_init_41 rfl ?_
  refine ax_callIN dX11_init_42 li_X11_26 (i_X4_76) rfl rfl (Nat.le_of_ble_eq_true rfl) (Nat.le_of_ble_eq_true rfl) (by decide) (by decide) ?_
  refine ax_pr dX11_init_45 fl_X11_27 (Or.inr ⟨fp_X11_11_4, rfl⟩) rfl (by decide) (by decide) rfl ?_
  refine ax_aload_n (i := 0) dX11_init_48 rfl rfl ?_
  refine ax_no (n := 79) (n2 := 80) dX11_init_49 cn_X11_31 (by decide) rfl (by decide) (by decide) (by decide) rfl (by decide +kernel) (fun _ => rfl) (fun _ => rfl) ?_
  refine ax_dup dX11_init_52 rfl ?_
  refine ax_callIN dX11_init_53 li_X11_33 (i_X0_79) rfl rfl (Nat.le_of_ble_eq_true rfl) (Nat.le_of_ble_eq_true rfl) (by decide) (by decide) ?_
  refine ax_pr dX11_init_56 fl_X11_34 (Or.inr ⟨fp_X11_11_5, rfl⟩) rfl (by decide) (by decide) rfl ?_
  refine ax_aload_n (i := 0) dX11_init_59 rfl rfl ?_
  refine ax_iconst (v := 3) dX11_init_60 (by decide) ?_
  refine ax_na (n := 81) (n2 := 82) (N' := 3) (t0 := 0) dX11_init_61 rfl (Or.inl rfl) (fun _ => rfl) aw_int rfl (by decide) (by decide) rfl (by decide) (by decide) (by decide) rfl (by decide +kernel) (fun _ => rfl) (fun _ => rfl) ?_
  refine ax_pr dX11_init_63 fl_X11_38 (Or.inr ⟨fp_X11_11_6, rfl⟩) rfl (by decide) (by decide) rfl ?_
  refine ax_aload_n (i := 0) dX11_init_66 rfl rfl ?_
  refine ax_bipush (v := 6) dX11_init_67 (by decide) ?_
  refine ax_na (n := 82) (n2 := 83) (N' := 6) (t0 := 0) dX11_init_69 rfl (Or.inl rfl) (fun _ => rfl) aw_int rfl (by decide) (by decide) rfl (by decide) (by decide) (by decide) rfl (by decide +kernel) (fun _ => rfl) (fun _ => rfl) ?_
  refine ax_pr dX11_init_71 fl_X11_42 (Or.inr ⟨fp_X11_11_7, rfl⟩) rfl (by decide) (by decide) rfl ?_
  refine ax_aload_n (i := 0) dX11_init_74 rfl rfl ?_
  refine ax_bipush (v := 6) dX11_init_75 (by decide) ?_
  refine ax_na (n := 83) (n2 := 84) (N' := 6) (t0 := 0) dX11_init_77 rfl (Or.inl rfl) (fun _ => rfl) aw_int rfl (by decide) (by decide) rfl (by decide) (by decide) (by decide) rfl (by decide +kernel) (fun _ => rfl) (fun _ => rfl) ?_
  refine ax_pr dX11_init_79 fl_X11_45 (Or.inr ⟨fp_X11_11_8, rfl⟩) rfl (by decide) (by decide) rfl ?_
  refine ax_aload_n (i := 0) dX11_init_82 rfl rfl ?_
  refine ax_bipush (v := 6) dX11_init_83 (by decide) ?_
  refine ax_bipush (v := 60) dX11_init_85 (by decide) ?_
  refine ax_nm (n := 84) (n2 := 91) (ty := .long) (K' := 60) dX11_init_87 cw_X11_48 aw_long (Or.inr ⟨rfl, rfl, rfl⟩) rfl rfl (by decide) rfl (by decide) (by decide) (by decide) rfl (by decide +kernel) (by decide +kernel) (fun _ _ _ _ => rfl) (fun _ _ _ _ => rfl) ?_
  refine ax_pr dX11_init_91 fl_X11_50 (Or.inr ⟨fp_X11_11_9, rfl⟩) rfl (by decide) (by decide) rfl ?_
  refine ax_iconst (v := 0) dX11_init_94 (by decide) ?_
  refine ax_istore_n (i := 1) dX11_init_95 rfl (by decide) rfl ?_
  refine ax_iload_n (i := 1) dX11_init_96 rfl rfl ?_
  refine ax_bipush (v := 6) dX11_init_97 (by decide) ?_
  refine ax_icmp_ge (tgt := 115) dX11_init_99 (by decide) (fun c => absurd c (by decide)) (fun _ => ?_)
  refine ax_aload_n (i := 0) dX11_init_102 rfl rfl ?_
  refine ax_getR dX11_init_103 fl_X11_42 rfl (Zc_s (by decide) rfl) (show r9 _ 0 7 = some 82 from rfl) ?_
  refine ax_iload_n (i := 1) dX11_init_106 rfl rfl ?_
  refine ax_iconst (v := (-1)) dX11_init_107 (by decide) ?_
  refine ax_iastN 0 dX11_init_108 (Zc_s (by decide) rfl) rfl (by decide) (by decide) ?_
  refine ax_iinc (v := 1) dX11_init_109 rfl rfl (by decide) rfl ?_
  refine ax_goto (tgt := 96) dX11_init_112 (by decide) ?_
  refine ax_iload_n (i := 1) dX11_init_96 rfl rfl ?_
  refine ax_bipush (v := 6) dX11_init_97 (by decide) ?_
  refine ax_icmp_ge (tgt := 115) dX11_init_99 (by decide) (fun c => absurd c (by decide)) (fun _ => ?_)
  refine ax_aload_n (i := 0) dX11_init_102 rfl rfl ?_
  refine ax_getR dX11_init_103 fl_X11_42 rfl (Zc_s (by decide) rfl) (show r9 _ 0 7 = some 82 from rfl) ?_
  refine ax_iload_n (i := 1) dX11_init_106 rfl rfl ?_
  refine ax_iconst (v := (-1)) dX11_init_107 (by decide) ?_
  refine ax_iastN 1 dX11_init_108 (Zc_s (by decide) rfl) rfl (by decide) (by decide) ?_
  refine ax_iinc (v := 2) dX11_init_109 rfl rfl (by decide) rfl ?_
  refine ax_goto (tgt := 96) dX11_init_112 (by decide) ?_
  refine ax_iload_n (i := 1) dX11_init_96 rfl rfl ?_
  refine ax_bipush (v := 6) dX11_init_97 (by decide) ?_
  refine ax_icmp_ge (tgt := 115) dX11_init_99 (by decide) (fun c => absurd c (by decide)) (fun _ => ?_)
  refine ax_aload_n (i := 0) dX11_init_102 rfl rfl ?_
  refine ax_getR dX11_init_103 fl_X11_42 rfl (Zc_s (by decide) rfl) (show r9 _ 0 7 = some 82 from rfl) ?_
  refine ax_iload_n (i := 1) dX11_init_106 rfl rfl ?_
  refine ax_iconst (v := (-1)) dX11_init_107 (by decide) ?_
  refine ax_iastN 2 dX11_init_108 (Zc_s (by decide) rfl) rfl (by decide) (by decide) ?_
  refine ax_iinc (v := 3) dX11_init_109 rfl rfl (by decide) rfl ?_
  refine ax_goto (tgt := 96) dX11_init_112 (by decide) ?_
  refine ax_iload_n (i := 1) dX11_init_96 rfl rfl ?_
  refine ax_bipush (v := 6) dX11_init_97 (by decide) ?_
  refine ax_icmp_ge (tgt := 115) dX11_init_99 (by decide) (fun c => absurd c (by decide)) (fun _ => ?_)
  refine ax_aload_n (i := 0) dX11_init_102 rfl rfl ?_
  refine ax_getR dX11_init_103 fl_X11_42 rfl (Zc_s (by decide) rfl) (show r9 _ 0 7 = some 82 from rfl) ?_
  refine ax_iload_n (i := 1) dX11_init_106 rfl rfl ?_
  refine ax_iconst (v := (-1)) dX11_init_107 (by decide) ?_
  refine ax_iastN 3 dX11_init_108 (Zc_s (by decide) rfl) rfl (by decide) (by decide) ?_
  refine ax_iinc (v := 4) dX11_init_109 rfl rfl (by decide) rfl ?_
  refine ax_goto (tgt := 96) dX11_init_112 (by decide) ?_
  refine ax_iload_n (i := 1) dX11_init_96 rfl rfl ?_
  refine ax_bipush (v := 6) dX11_init_97 (by decide) ?_
  refine ax_icmp_ge (tgt := 115) dX11_init_99 (by decide) (fun c => absurd c (by decide)) (fun _ => ?_)
  refine ax_aload_n (i := 0) dX11_init_102 rfl rfl ?_
  refine ax_getR dX11_init_103 fl_X11_42 rfl (Zc_s (by decide) rfl) (show r9 _ 0 7 = some 82 from rfl) ?_
  refine ax_iload_n (i := 1) dX11_init_106 rfl rfl ?_
  refine ax_iconst (v := (-1)) dX11_init_107 (by decide) ?_
  refine ax_iastN 4 dX11_init_108 (Zc_s (by decide) rfl) rfl (by decide) (by decide) ?_
  refine ax_iinc (v := 5) dX11_init_109 rfl rfl (by decide) rfl ?_
  refine ax_goto (tgt := 96) dX11_init_112 (by decide) ?_
  refine ax_iload_n (i := 1) dX11_init_96 rfl rfl ?_
  refine ax_bipush (v := 6) dX11_init_97 (by decide) ?_
  refine ax_icmp_ge (tgt := 115) dX11_init_99 (by decide) (fun c => absurd c (by decide)) (fun _ => ?_)
  refine ax_aload_n (i := 0) dX11_init_102 rfl rfl ?_
  refine ax_getR dX11_init_103 fl_X11_42 rfl (Zc_s (by decide) rfl) (show r9 _ 0 7 = some 82 from rfl) ?_
  refine ax_iload_n (i := 1) dX11_init_106 rfl rfl ?_
  refine ax_iconst (v := (-1)) dX11_init_107 (by decide) ?_
  refine ax_iastN 5 dX11_init_108 (Zc_s (by decide) rfl) rfl (by decide) (by decide) ?_
  refine ax_iinc (v := 6) dX11_init_109 rfl rfl (by decide) rfl ?_
  refine ax_goto (tgt := 96) dX11_init_112 (by decide) ?_
  refine ax_iload_n (i := 1) dX11_init_96 rfl rfl ?_
  refine ax_bipush (v := 6) dX11_init_97 (by decide) ?_
  refine ax_icmp_ge (tgt := 115) dX11_init_99 (by decide) (fun _ => ?_) (fun c => absurd (by decide) c)
  refine ax_vret dX11_init_115 rfl (by decide) (by decide) ?_
  exact ⟨rfl, rfl, rfl, rfl⟩
