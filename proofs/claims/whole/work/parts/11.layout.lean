-- ===== where things lie: places 0 .. 123 =====
def SHl : List (Option Sh) := [some (.inl 11), some (.inl 4), some (.inr (.byte, 100)), some (.inr (.int, 300)), some (.inl 0), some (.inr (.int, 20)), some (.inr (.int, 3)), some (.inr (.int, 6)), some (.inr (.int, 6)), some (.inr (.array .long, 6)),
  some (.inr (.long, 60)), some (.inr (.long, 60)), some (.inr (.long, 60)), some (.inr (.long, 60)), some (.inr (.long, 60)), some (.inr (.long, 60)), some (.inr (.object "FireApologies$Rocket", 7)), some (.inl 5), some (.inl 2), some (.inl 9), some (.inl 3), some (.inl 1), some (.inl 8), some (.inl 7),
  some (.inl 10), some (.inr (.array .int, 6)), some (.inr (.int, 10)), some (.inr (.int, 10)), some (.inr (.int, 10)), some (.inr (.int, 10)), some (.inr (.int, 10)), some (.inr (.int, 10)), some (.inr (.int, 4)), some (.inr (.int, 4)), some (.inr (.int, 5)), some (.inr (.int, 5)), some (.inr (.int, 5)), some (.inr (.int, 10)), some (.inr (.int, 10)), some (.inr (.int, 8)), some (.inr (.int, 8)),
  some (.inl 10), some (.inr (.array .int, 6)), some (.inr (.int, 10)), some (.inr (.int, 10)), some (.inr (.int, 10)), some (.inr (.int, 10)), some (.inr (.int, 10)), some (.inr (.int, 10)), some (.inr (.int, 4)), some (.inr (.int, 4)), some (.inr (.int, 5)), some (.inr (.int, 5)), some (.inr (.int, 5)), some (.inr (.int, 10)), some (.inr (.int, 10)), some (.inr (.int, 8)), some (.inr (.int, 8)),
  some (.inl 10), some (.inr (.array .int, 6)), some (.inr (.int, 10)), some (.inr (.int, 10)), some (.inr (.int, 10)), some (.inr (.int, 10)), some (.inr (.int, 10)), some (.inr (.int, 10)), some (.inr (.int, 4)), some (.inr (.int, 4)), some (.inr (.int, 5)), some (.inr (.int, 5)), some (.inr (.int, 5)), some (.inr (.int, 10)), some (.inr (.int, 10)), some (.inr (.int, 8)), some (.inr (.int, 8)),
  some (.inl 12), some (.inr (.int, 4)), some (.inr (.int, 4)), some (.inr (.int, 6)), some (.inr (.int, 6)), some (.inr (.int, 6)), some (.inr (.int, 6)), some (.inr (.int, 6)), some (.inr (.int, 6)), some (.inr (.int, 24)), some (.inr (.int, 100)), some (.inr (.int, 6)), some (.inr (.int, 61)), some (.inr (.int, 61)), some (.inr (.int, 61)), some (.inr (.int, 61)), some (.inr (.int, 800)), some (.inr (.boolean, 110)), some (.inr (.int, 5)), some (.inr (.int, 5)), some (.inr (.int, 5)), some (.inr (.int, 10)), some (.inr (.int, 10)), some (.inr (.int, 8)), some (.inr (.int, 8)), some (.inr (.int, 20)), some (.inr (.int, 125)), some (.inr (.int, 125)), some (.inr (.int, 3)), some (.inr (.int, 3)), some (.inr (.int, 6)), some (.inr (.int, 6)), some (.inr (.long, 360)),
  some (.inr (.object "FireApologies$Rocket", 7)), some (.inl 5), some (.inl 2), some (.inl 9), some (.inl 3), some (.inl 1), some (.inl 8), some (.inl 7),
  some (.inr (.object "FireApologies$Rocket", 7)), some (.inl 5), some (.inl 2), some (.inl 9), some (.inl 3), some (.inl 1), some (.inl 8), some (.inl 7)]
def RFl : List (List (Option Nat)) := [[some 24, some 41, some 58, none, some 1, some 4, some 6, some 7, some 8, some 9, none], [some 2, none, some 3], [], [], [some 5], [], [], [], [], [some 10, some 11, some 12, some 13, some 14, some 15], [], [], [], [], [], [], [some 17, some 18, some 19, some 20, some 21, some 22, some 23], [], [], [], [], [], [], [],
  [some 16, some 25, some 32, some 33, some 34, some 35, some 36, some 37, some 38, some 39, some 40], [some 26, some 27, some 28, some 29, some 30, some 31], [], [], [], [], [], [], [], [], [], [], [], [], [], [], [],
  [some 108, some 42, some 49, some 50, some 51, some 52, some 53, some 54, some 55, some 56, some 57], [some 43, some 44, some 45, some 46, some 47, some 48], [], [], [], [], [], [], [], [], [], [], [], [], [], [], [],
  [some 116, some 59, some 66, some 67, some 68, some 69, some 70, some 71, some 72, some 73, some 74], [some 60, some 61, some 62, some 63, some 64, some 65], [], [], [], [], [], [], [], [], [], [], [], [], [], [], [],
  [some 76, some 77, none, some 78, some 79, some 80, some 81, some 82, some 83, some 84, none, none, some 85, none, none, none, none, none, none, some 86, some 87, some 88, some 89, some 90, some 91, none, some 92, none, some 93, some 94, some 95, none, some 96, some 97, none, some 98, some 99, none, some 100, none, some 101, some 102, some 103, some 104, none, none, some 105, some 106, some 107], [], [], [], [], [], [], [], [], [], [], [], [], [], [], [], [], [], [], [], [], [], [], [], [], [], [], [], [], [], [], [], [],
  [some 109, some 110, some 111, some 112, some 113, some 114, some 115], [], [], [], [], [], [], [], [some 117, some 118, some 119, some 120, some 121, some 122, some 123]]
def SH0 (k : Nat) : Option Sh := SHl.getD k none
def RF0 (k i : Nat) : Option Nat := (RFl.getD k []).getD i none
/-- the places as they are once both objects are made -/
def OK (Z : Zt) : Prop := (∀ k x, SH0 k = some x → Z.2.1 k = some x) ∧ (∀ k i j, RF0 k i = some j → Z.2.2 k i = some j) ∧ 124 ≤ Z.1
theorem OKs {Z : Zt} (h : OK Z) {k : Nat} {x : Sh} (hk : SH0 k = some x) : Z.2.1 k = some x := h.1 k x hk
theorem OKr {Z : Zt} (h : OK Z) {k i j : Nat} (hk : RF0 k i = some j) : Z.2.2 k i = some j := h.2.1 k i j hk
def DQ (r : Option Value) (Z : Zt) (G : Gt) (L : Lt) : Qt := fun r' Z' G' L' => r' = r ∧ Z' = Z ∧ G' = G ∧ L' = L
def bi (p : Prop) [Decidable p] : Int32 := if p then 1 else 0
theorem bi_t {p : Prop} [Decidable p] (h : p) : bi p = 1 := if_pos h
theorem bi_f {p : Prop} [Decidable p] (h : ¬ p) : bi p = 0 := if_neg h
theorem bi_eq {p : Prop} [Decidable p] : bi p = 0 ↔ ¬ p := by
  unfold bi
  by_cases h : p <;> simp [h]
theorem bi_ne {p : Prop} [Decidable p] : ¬ bi p = 0 ↔ p := by rw [bi_eq]; exact Decidable.not_not
section AXD
variable {X : Option (Nat × (Nat → Int32))} {M : Mt} {d mc ms cu su pc : Nat} {lv : Lv} {st : List Value} {Z : Zt} {G : Gt} {L : Lt} {Q : Qt}
theorem ax_top {v w : Value} (h : v = w) (k : AX X M d mc ms cu su pc lv (w :: st) Z G L Q) : AX X M d mc ms cu su pc lv (v :: st) Z G L Q := h ▸ k
/-- calls whose end is one state -/
theorem ax_cS {idx n d' : Nat} {M' : Mt} {av st0 : List Value} {r : Option Value} {Z' : Zt} {G' : Gt} {L' : Lt} (hd : decode M.2.1 pc = .ok (.invokestatic idx, 3)) (hlk : LkS M.1.cls idx M' n) (hA : AC M' d' 0 0 av Z G L (DQ r Z' G' L')) (hst0 : st0 = av.reverse ++ st) (hn9 : av.length = n) (hst : (st.map fun v => v.category).sum ≤ 8) (hdd : d' + 1 ≤ d) (hc1 : cu ≤ mc) (hc2 : su ≤ ms)
    (kk : AX X M d mc ms cu su (pc + 3) lv (r.toList ++ st) Z' G' L' Q) : AX X M d mc ms cu su pc lv st0 Z G L Q :=
  ax_callS hd hlk hA hst0 hn9 hst hdd hc1 hc2 (fun _ _ _ _ h => by obtain ⟨rfl, rfl, rfl, rfl⟩ := h; exact kk)
theorem ax_cV {idx n d' k ci : Nat} {M' : Mt} {av st0 : List Value} {r : Option Value} {Z' : Zt} {G' : Gt} {L' : Lt} (hd : decode M.2.1 pc = .ok (.invokevirtual idx, 3)) (hlk : LkV M.1.cls idx M' n) (hA : AC M' d' 0 0 (.ref k :: av) Z G L (DQ r Z' G' L')) (hst0 : st0 = av.reverse ++ .ref k :: st) (hsh : Z.2.1 k = some (.inl ci)) (hci : ∃ q : vw_C, CL[ci]? = some q ∧ q.1 = M'.1.cls) (hn9 : av.length = n) (hst : (st.map fun v => v.category).sum ≤ 8) (hdd : d' + 1 ≤ d) (hc1 : cu ≤ mc) (hc2 : su ≤ ms)
    (kk : AX X M d mc ms cu su (pc + 3) lv (r.toList ++ st) Z' G' L' Q) : AX X M d mc ms cu su pc lv st0 Z G L Q :=
  ax_callV hd hlk hA hst0 hsh hci hn9 hst hdd hc1 hc2 (fun _ _ _ _ h => by obtain ⟨rfl, rfl, rfl, rfl⟩ := h; exact kk)
end AXD
