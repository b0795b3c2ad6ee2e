-- ===== the model reads: a clause =====
/-- what a show that is read may change -/
def SFr (G0 G : Gt) (h b0 : Nat) : Prop := (∀ x, x ≠ 75 → ¬ (87 ≤ x ∧ x < 92) → G x = G0 x) ∧ (∀ i, i ≠ 13 → i ≠ 14 → i ≠ 15 → i ≠ 16 → i ≠ 25 → G 75 i = G0 75 i) ∧ (∀ x, 87 ≤ x → x < 91 → ∀ j, j < 10 * h → G x j = G0 x j) ∧ ∀ k, k < b0 → G 91 k = G0 91 k
def clP (G : Gt) (h b0 c i : Nat) (cl : Cl) : Prop := G 87 (10 * h + i) = nI cl.1 ∧ G 88 (10 * h + i) = nI cl.2.1 ∧ (cl.1 < 2 → ∃ b, G 89 (10 * h + i) = nI b ∧ G 90 (10 * h + i) = nI cl.2.2.length ∧ b0 ≤ b ∧ b + cl.2.2.length ≤ c ∧ ∀ k, k < cl.2.2.length → G 91 (b + k) = nI (cl.2.2.getD k 0))
/-- the model between two clauses of a show -/
def SC (G0 G : Gt) (h b0 a c : Nat) (cls : List Cl) : Prop := G 75 13 = nI a ∧ G 75 25 = nI c ∧ b0 ≤ c ∧ (∀ i, i < cls.length → clP G h b0 c i (cls.getD i c0)) ∧ SFr G0 G h b0
def SCx (G0 G : Gt) (h b0 a : Nat) : Prop := G 75 13 = nI a ∧ SFr G0 G h b0
theorem SC_T {G0 G : Gt} {T : Nat × (Nat → Nat)} {h b0 a c : Nat} {cls : List Cl} (hs : SC G0 G h b0 a c cls) (hT : imT G0 T) : imT G T := imT_keep hT (hs.2.2.2.2.2.1 11 (by decide) (by decide) (by decide) (by decide) (by decide)) (hs.2.2.2.2.1 85 (by decide) (by decide))
theorem SC_PS {G0 G G' : Gt} {T : Nat × (Nat → Nat)} {h b0 a c a' o : Nat} {cls : List Cl} {cs : List Nat} (hs : SC G0 G h b0 a c cls) (hp : PS G G' T c a' cs o) : SC G0 G' h b0 a' (c + cs.length) cls := by
  obtain ⟨s1, s2, s3, s4, s5, s6, s7, s8⟩ := hs
  obtain ⟨p1, p2, p3, p4, p5, p6, p7⟩ := hp
  refine ⟨p1, p3, by omega, fun i hi => ?_, fun x h1 h2 => (p5 x h1 (by omega)).trans (s5 x h1 h2), fun i e1 e2 e3 e4 e5 => (p6 i e1 e2 e3 e4 e5).trans (s6 i e1 e2 e3 e4 e5), fun x h1 h2 j hj => by rw [p5 x (by omega) (by omega)]; exact s7 x h1 h2 j hj, fun k hk => (p7 k (by omega)).trans (s8 k hk)⟩
  obtain ⟨c1, c2, c3⟩ := s4 i hi
  refine ⟨by rw [p5 87 (by decide) (by decide)]; exact c1, by rw [p5 88 (by decide) (by decide)]; exact c2, fun hw => ?_⟩
  obtain ⟨b, b1, b2, b3, b4, b5⟩ := c3 hw
  exact ⟨b, by rw [p5 89 (by decide) (by decide)]; exact b1, by rw [p5 90 (by decide) (by decide)]; exact b2, b3, by omega, fun k hk => by rw [p7 _ (by omega)]; exact b5 k hk⟩
theorem SC_PSx {G0 G G' : Gt} {T : Nat × (Nat → Nat)} {h b0 a c a' : Nat} {cls : List Cl} (hs : SC G0 G h b0 a c cls) (hp : PSx G G' T c a') : SCx G0 G' h b0 a' := by
  obtain ⟨cs, o, hp⟩ := hp
  obtain ⟨z1, -, -, -, z2⟩ := SC_PS hs hp
  exact ⟨z1, z2⟩
theorem SC_self {G0 G : Gt} {T : Nat × (Nat → Nat)} {h b0 a c : Nat} {cls : List Cl} (hs : SC G0 G h b0 a c cls) {o : Nat} (ho : G 75 16 = nI o) : PS G G T c a [] o := ⟨hs.1, ho, hs.2.1, fun k hk => absurd hk (Nat.not_lt_zero k), fun _ _ _ => rfl, fun _ _ _ _ _ _ => rfl, fun _ _ => rfl⟩
theorem SC_up {G0 G : Gt} {h b0 a c x : Nat} {cls : List Cl} {v : Int32} (hs : SC G0 G h b0 a c cls) (hx : 87 ≤ x ∧ x < 91) : SC G0 (up2 G x (10 * h + cls.length) v) h b0 a c cls := by
  obtain ⟨s1, s2, s3, s4, s5, s6, s7, s8⟩ := hs
  refine ⟨by rw [up2_k (by omega)]; exact s1, by rw [up2_k (by omega)]; exact s2, s3, fun i hi => ?_, fun y h1 h2 => (up2_row (by omega)).trans (s5 y h1 h2), fun i e1 e2 e3 e4 e5 => by rw [up2_k (by omega)]; exact s6 i e1 e2 e3 e4 e5, fun y h1 h2 j hj => by rw [up2_i (by omega)]; exact s7 y h1 h2 j hj, fun k hk => by rw [up2_k (by omega)]; exact s8 k hk⟩
  obtain ⟨c1, c2, c3⟩ := s4 i hi
  refine ⟨by rw [up2_i (by omega)]; exact c1, by rw [up2_i (by omega)]; exact c2, fun hw => ?_⟩
  obtain ⟨b, b1, b2, b3, b4, b5⟩ := c3 hw
  exact ⟨b, by rw [up2_i (by omega)]; exact b1, by rw [up2_i (by omega)]; exact b2, b3, b4, fun k hk => by rw [up2_k (by omega)]; exact b5 k hk⟩
theorem SC_op {G0 G : Gt} {h b0 a c : Nat} {cls : List Cl} {v : Int32} (hs : SC G0 G h b0 a c cls) : SC G0 (up2 G 75 16 v) h b0 a c cls := by
  obtain ⟨s1, s2, s3, s4, s5, s6, s7, s8⟩ := hs
  refine ⟨by rw [up2_i (by decide)]; exact s1, by rw [up2_i (by decide)]; exact s2, s3, fun i hi => ?_, fun y h1 h2 => (up2_row h1).trans (s5 y h1 h2), fun i e1 e2 e3 e4 e5 => by rw [up2_i e4]; exact s6 i e1 e2 e3 e4 e5, fun y h1 h2 j hj => by rw [up2_k (by omega)]; exact s7 y h1 h2 j hj, fun k hk => by rw [up2_k (by decide)]; exact s8 k hk⟩
  obtain ⟨c1, c2, c3⟩ := s4 i hi
  refine ⟨by rw [up2_k (by decide)]; exact c1, by rw [up2_k (by decide)]; exact c2, fun hw => ?_⟩
  obtain ⟨b, b1, b2, b3, b4, b5⟩ := c3 hw
  exact ⟨b, by rw [up2_k (by decide)]; exact b1, by rw [up2_k (by decide)]; exact b2, b3, b4, fun k hk => by rw [up2_k (by decide)]; exact b5 k hk⟩
theorem getD_snoc {cls : List Cl} {c : Cl} {i : Nat} (h : i < cls.length) : (cls ++ [c]).getD i c0 = cls.getD i c0 := by
  rw [List.getD_eq_getElem?_getD, List.getD_eq_getElem?_getD, List.getElem?_append_left h]
theorem getD_last {cls : List Cl} {c : Cl} : (cls ++ [c]).getD cls.length c0 = c := by
  rw [List.getD_eq_getElem?_getD, List.getElem?_append_right (Nat.le_refl _), Nat.sub_self]
  rfl
theorem SC_snoc {G0 G : Gt} {h b0 a c : Nat} {cls : List Cl} {cl : Cl} (hs : SC G0 G h b0 a c cls) (hc : clP G h b0 c cls.length cl) : SC G0 G h b0 a c (cls ++ [cl]) := by
  obtain ⟨s1, s2, s3, s4, s5⟩ := hs
  refine ⟨s1, s2, s3, fun i hi => ?_, s5⟩
  rw [List.length_append] at hi
  have hi : i < cls.length + 1 := hi
  by_cases e : i = cls.length
  · subst e; rw [getD_last]; exact hc
  · rw [getD_snoc (by omega)]; exact s4 i (by omega)
/-- a clause's word and number stand, its codes begin -/
def SD (G0 G : Gt) (h b0 a c : Nat) (cls : List Cl) (w n : Nat) : Prop := SC G0 G h b0 a c cls ∧ G 87 (10 * h + cls.length) = nI w ∧ G 88 (10 * h + cls.length) = nI n ∧ G 89 (10 * h + cls.length) = nI c ∧ G 75 16 = nI 0
theorem SD_end {G0 G G' : Gt} {T : Nat × (Nat → Nat)} {h b0 a c a' w n : Nat} {cls : List Cl} {cs : List Nat} {x : Int32} (hd : SD G0 G h b0 a c cls w n) (hp : PS G G' T c a' cs 0) (hx : x = nI cs.length) : SC G0 (up2 G' 90 (10 * h + cls.length) x) h b0 a' (c + cs.length) (cls ++ [(w, n, cs)]) := by
  obtain ⟨d1, d2, d3, d4, d5⟩ := hd
  have hs := SC_up (v := x) (SC_PS d1 hp) (x := 90) (by decide)
  obtain ⟨p1, p2, p3, p4, p5, p6, p7⟩ := hp
  refine SC_snoc hs ⟨by rw [up2_k (by decide), p5 87 (by decide) (by decide)]; exact d2, by rw [up2_k (by decide), p5 88 (by decide) (by decide)]; exact d3, fun _ => ⟨c, by rw [up2_k (by decide), p5 89 (by decide) (by decide)]; exact d4, by rw [up2_s]; exact hx, d1.2.2.1, Nat.le_refl _, fun k hk => by rw [up2_k (by decide)]; exact p4 k hk⟩⟩
theorem add_sub9 (c n : Nat) : nI (c + n) - nI c = nI n := (pk_sub (Nat.le_add_right c n)).trans (by rw [Nat.add_sub_cancel_left])
theorem hw_br : ∀ j, j < wBr.length → sB 0 j = nI (wBr.getD j 0) ∧ wBr.getD j 0 < 128 := by decide +kernel
theorem hw_di : ∀ j, j < wDi.length → sB 4 j = nI (wDi.getD j 0) ∧ wDi.getD j 0 < 128 := by decide +kernel
theorem hw_dr : ∀ j, j < wDr.length → sB 5 j = nI (wDr.getD j 0) ∧ wDr.getD j 0 < 128 := by decide +kernel
theorem pCl_b {T : Nat × (Nat → Nat)} {a : Nat} (h : chT T a = 98) : pCl T a = pCw T 0 (pAll T wBr a) := by unfold pCl; rw [if_pos h]
theorem pCl_i {T : Nat × (Nat → Nat)} {a : Nat} (h : chT T a = 100) (h2 : ¬ chT T (a + 1) = 114) : pCl T a = pCw T 1 (pAll T wDi a) := by unfold pCl; rw [if_neg (by omega), if_pos h, if_neg h2]
theorem pCl_r {T : Nat × (Nat → Nat)} {a : Nat} (h : chT T a = 100) (h2 : chT T (a + 1) = 114) : pCl T a = pCw T 2 (pAll T wDr a) := by unfold pCl; rw [if_neg (by omega), if_pos h, if_pos h2]
theorem pCl_n {T : Nat × (Nat → Nat)} {a : Nat} (h : ¬ chT T a = 98) (h2 : ¬ chT T a = 100) : pCl T a = (false, a, c0) := by unfold pCl; rw [if_neg h, if_neg h2]
theorem pCw_f {T : Nat × (Nat → Nat)} {w : Nat} {r : Bool × Nat} (h : r.1 = false) : pCw T w r = (false, r.2, c0) := by unfold pCw; rw [if_neg (by rw [h]; decide)]
theorem pCw_0 {T : Nat × (Nat → Nat)} {w : Nat} {r : Bool × Nat} (h : r.1 = true) (h2 : nmC T r.2 = 0) : pCw T w r = (false, r.2, c0) := by unfold pCw; rw [if_pos h, if_pos h2]
theorem pCw_2 {T : Nat × (Nat → Nat)} {r : Bool × Nat} (h : r.1 = true) (h2 : ¬ nmC T r.2 = 0) : pCw T 2 r = (true, r.2 + nmC T r.2, (2, nmV T r.2, [])) := by unfold pCw; rw [if_pos h, if_neg h2, if_pos rfl]
theorem pCw_e {T : Nat × (Nat → Nat)} {w : Nat} {r : Bool × Nat} (hw : w < 2) (h : r.1 = true) (h2 : ¬ nmC T r.2 = 0) : pCw T w r = pCe T w (nmV T r.2) (r.2 + nmC T r.2) := by unfold pCw; rw [if_pos h, if_neg h2, if_neg (by omega)]
theorem m_clause {Z : Zt} {G : Gt} {L : Lt} (hZ : OK Z) {G0 : Gt} {T : Nat × (Nat → Nat)} (hT : imT G0 T) (hT1 : T.1 ≤ 100) (hT2 : ∀ i, i < T.1 → T.2 i < 128) {h b0 a c : Nat} {cls : List Cl} (hs : SC G0 G h b0 a c cls) (ha : a ≤ T.1) (hca : c ≤ b0 + a) (hb0 : b0 ≤ 500) (hh6 : h < 6) (hl10 : cls.length < 10) : AC mX12_isClause 21 0 0 [.ref 75, .int (nI (10 * h + cls.length))] Z G L (RP (.int (bI (pCl T a).1)) (fun Z' G' L' => Z' = Z ∧ L' = L ∧ ((pCl T a).1 = true → ∃ c', SC G0 G' h b0 (pCl T a).2.1 c' (cls ++ [(pCl T a).2.2]) ∧ c ≤ c' ∧ c' ≤ b0 + (pCl T a).2.1) ∧ ((pCl T a).1 = false → SCx G0 G' h b0 (pCl T a).2.1))) := by
  have hTG := SC_T hs hT
  obtain ⟨o, ho⟩ := any_nI (G 75 16)
  have hp : PS G G T c a [] o := SC_self hs ho
  refine AC.intro (by decide +kernel) (Nat.le_of_ble_eq_true rfl) ?_
  refine ax_lv [(0, .ref 75), (1, .int (nI (10 * h + cls.length)))] ⟨rfl, rfl, trivial⟩ ?_
  refine ax_iconst (v := (-1)) dX12_isClause_0 (by decide) ?_
  refine ax_istore_n (i := 2) dX12_isClause_1 rfl (by decide) rfl ?_
  refine ax_aload_n (i := 0) dX12_isClause_2 rfl rfl ?_
  refine ax_getI dX12_isClause_3 fl_X12_149 rfl (OKs hZ rfl) ?_
  refine ax_top (congrArg Value.int hs.1) ?_
  refine ax_aload_n (i := 0) dX12_isClause_6 rfl rfl ?_
  refine ax_getI dX12_isClause_7 fl_X12_146 rfl (OKs hZ rfl) ?_
  refine ax_top (congrArg Value.int hTG.1) ?_
  refine ax_icmp_ge (tgt := 51) dX12_isClause_10 (by decide) (fun c_10 => ?_) (fun c_10 => ?_)
  · refine ax_iload_n (i := 2) dX12_isClause_51 rfl rfl ?_
    refine ax_iconst (v := 1) dX12_isClause_52 (by decide) ?_
    refine ax_icmp_ne (tgt := 87) dX12_isClause_53 (by decide) (fun c_53 => ?_) (fun c_53 => ?_)
    · refine ax_iload_n (i := 2) dX12_isClause_87 rfl rfl ?_
      refine ax_if_ne (tgt := 100) dX12_isClause_88 (by decide) (fun c_88 => ?_) (fun c_88 => ?_)
      · refine ax_iload_n (i := 2) dX12_isClause_100 rfl rfl ?_
        refine ax_iconst (v := 1) dX12_isClause_101 (by decide) ?_
        refine ax_icmp_ne (tgt := 114) dX12_isClause_102 (by decide) (fun c_102 => ?_) (fun c_102 => ?_)
        · refine ax_iload_n (i := 2) dX12_isClause_114 rfl rfl ?_
          refine ax_iconst (v := 2) dX12_isClause_115 (by decide) ?_
          refine ax_icmp_ne (tgt := 132) dX12_isClause_116 (by decide) (fun c_116 => ?_) (fun c_116 => ?_)
          · refine ax_iconst (v := 0) dX12_isClause_132 (by decide) ?_
            refine ax_istore_n (i := 3) dX12_isClause_133 rfl (by decide) rfl ?_
            refine ax_iload_n (i := 3) dX12_isClause_134 rfl rfl ?_
            refine ax_if_eq (tgt := 145) dX12_isClause_135 (by decide) (fun c_135 => ?_) (fun c_135 => ?_)
            · refine ax_iconst (v := 0) dX12_isClause_145 (by decide) ?_
              refine ax_iret dX12_isClause_146 rfl rfl (Nat.le_of_ble_eq_true rfl) (Nat.le_of_ble_eq_true rfl) ?_
              have n9 : chT T a = 200 := by unfold chT; rw [if_neg (show ¬ a < T.1 from by have := (nI_leI (by omega) (by omega)).mp c_10; omega)]
              have e9 : pCl T a = (false, a, c0) := pCl_n (by omega) (by omega)
              rw [e9]
              exact ⟨rfl, rfl, rfl, fun z => Bool.noConfusion z, fun _ => ⟨hs.1, hs.2.2.2.2⟩⟩
            · exact absurd (by decide) c_135
          · exact absurd c_116 (by decide)
        · exact absurd c_102 (by decide)
      · exact absurd c_88 (by decide)
    · exact absurd c_53 (by decide)
  · have hl : a < T.1 := by have := mt (nI_leI (by omega) (by omega)).mpr c_10; omega
    have ec : chT T a = T.2 a := by unfold chT; rw [if_pos hl]
    have h128 := hT2 a hl
    refine ax_aload_n (i := 0) dX12_isClause_13 rfl rfl ?_
    refine ax_getR dX12_isClause_14 fl_X12_39 rfl (OKs hZ rfl) (OKr hZ rfl) ?_
    refine ax_aload_n (i := 0) dX12_isClause_17 rfl rfl ?_
    refine ax_getI dX12_isClause_18 fl_X12_149 rfl (OKs hZ rfl) ?_
    refine ax_ialdN a dX12_isClause_21 (OKs hZ rfl) hs.1 (show a < 100 by omega) (by decide) ?_
    refine ax_top (congrArg Value.int (hTG.2 a hl)) ?_
    refine ax_bipush (v := 98) dX12_isClause_22 (by decide) ?_
    refine ax_icmp_ne (tgt := 31) dX12_isClause_24 (by decide) (fun c_24 => ?_) (fun c_24 => ?_)
    · refine ax_aload_n (i := 0) dX12_isClause_31 rfl rfl ?_
      refine ax_getR dX12_isClause_32 fl_X12_39 rfl (OKs hZ rfl) (OKr hZ rfl) ?_
      refine ax_aload_n (i := 0) dX12_isClause_35 rfl rfl ?_
      refine ax_getI dX12_isClause_36 fl_X12_149 rfl (OKs hZ rfl) ?_
      refine ax_ialdN a dX12_isClause_39 (OKs hZ rfl) hs.1 (show a < 100 by omega) (by decide) ?_
      refine ax_top (congrArg Value.int (hTG.2 a hl)) ?_
      refine ax_bipush (v := 100) dX12_isClause_40 (by decide) ?_
      refine ax_icmp_ne (tgt := 49) dX12_isClause_42 (by decide) (fun c_42 => ?_) (fun c_42 => ?_)
      · refine ax_iconst (v := (-1)) dX12_isClause_49 (by decide) ?_
        refine ax_istore_n (i := 2) dX12_isClause_50 rfl (by decide) rfl ?_
        refine ax_iload_n (i := 2) dX12_isClause_51 rfl rfl ?_
        refine ax_iconst (v := 1) dX12_isClause_52 (by decide) ?_
        refine ax_icmp_ne (tgt := 87) dX12_isClause_53 (by decide) (fun c_53 => ?_) (fun c_53 => ?_)
        · refine ax_iload_n (i := 2) dX12_isClause_87 rfl rfl ?_
          refine ax_if_ne (tgt := 100) dX12_isClause_88 (by decide) (fun c_88 => ?_) (fun c_88 => ?_)
          · refine ax_iload_n (i := 2) dX12_isClause_100 rfl rfl ?_
            refine ax_iconst (v := 1) dX12_isClause_101 (by decide) ?_
            refine ax_icmp_ne (tgt := 114) dX12_isClause_102 (by decide) (fun c_102 => ?_) (fun c_102 => ?_)
            · refine ax_iload_n (i := 2) dX12_isClause_114 rfl rfl ?_
              refine ax_iconst (v := 2) dX12_isClause_115 (by decide) ?_
              refine ax_icmp_ne (tgt := 132) dX12_isClause_116 (by decide) (fun c_116 => ?_) (fun c_116 => ?_)
              · refine ax_iconst (v := 0) dX12_isClause_132 (by decide) ?_
                refine ax_istore_n (i := 3) dX12_isClause_133 rfl (by decide) rfl ?_
                refine ax_iload_n (i := 3) dX12_isClause_134 rfl rfl ?_
                refine ax_if_eq (tgt := 145) dX12_isClause_135 (by decide) (fun c_135 => ?_) (fun c_135 => ?_)
                · refine ax_iconst (v := 0) dX12_isClause_145 (by decide) ?_
                  refine ax_iret dX12_isClause_146 rfl rfl (Nat.le_of_ble_eq_true rfl) (Nat.le_of_ble_eq_true rfl) ?_
                  have nb : ¬ chT T a = 98 := fun z => c_24 (by rw [← ec, z]; rfl)
                  have nd : ¬ chT T a = 100 := fun z => c_42 (by rw [← ec, z]; rfl)
                  have e9 : pCl T a = (false, a, c0) := pCl_n nb nd
                  rw [e9]
                  exact ⟨rfl, rfl, rfl, fun z => Bool.noConfusion z, fun _ => ⟨hs.1, hs.2.2.2.2⟩⟩
                · exact absurd (by decide) c_135
              · exact absurd c_116 (by decide)
            · exact absurd c_102 (by decide)
          · exact absurd c_88 (by decide)
        · exact absurd c_53 (by decide)
      · refine ax_iconst (v := 1) dX12_isClause_45 (by decide) ?_
        refine ax_goto (tgt := 50) dX12_isClause_46 (by decide) ?_
        refine ax_istore_n (i := 2) dX12_isClause_50 rfl (by decide) rfl ?_
        refine ax_iload_n (i := 2) dX12_isClause_51 rfl rfl ?_
        refine ax_iconst (v := 1) dX12_isClause_52 (by decide) ?_
        refine ax_icmp_ne (tgt := 87) dX12_isClause_53 (by decide) (fun c_53 => ?_) (fun c_53 => ?_)
        · exact absurd (by decide) c_53
        · refine ax_aload_n (i := 0) dX12_isClause_56 rfl rfl ?_
          refine ax_getI dX12_isClause_57 fl_X12_149 rfl (OKs hZ rfl) ?_
          refine ax_top (congrArg Value.int hs.1) ?_
          refine ax_iconst (v := 1) dX12_isClause_60 (by decide) ?_
          refine ax_iadd dX12_isClause_61 ?_
          refine ax_aload_n (i := 0) dX12_isClause_62 rfl rfl ?_
          refine ax_getI dX12_isClause_63 fl_X12_146 rfl (OKs hZ rfl) ?_
          refine ax_top (congrArg Value.int hTG.1) ?_
          refine ax_icmp_ge (tgt := 87) dX12_isClause_66 (by decide) (fun c_66 => ?_) (fun c_66 => ?_)
          · refine ax_iload_n (i := 2) dX12_isClause_87 rfl rfl ?_
            refine ax_if_ne (tgt := 100) dX12_isClause_88 (by decide) (fun c_88 => ?_) (fun c_88 => ?_)
            · refine ax_iload_n (i := 2) dX12_isClause_100 rfl rfl ?_
              refine ax_iconst (v := 1) dX12_isClause_101 (by decide) ?_
              refine ax_icmp_ne (tgt := 114) dX12_isClause_102 (by decide) (fun c_102 => ?_) (fun c_102 => ?_)
              · exact absurd (by decide) c_102
              · refine ax_aload_n (i := 0) dX12_isClause_105 rfl rfl ?_
                refine ax_ldcS (i := 4) (tx := "dim ") dX12_isClause_106 (by decide) ?_
                refine ax_cVq dX12_isClause_108 lk_X12_210 (m_all hZ hTG hT1 hT2 (i := 4) (by decide) wDi rfl hw_di hp ha) rfl (OKs hZ rfl) ⟨_, rfl, rfl⟩ rfl (Nat.le_of_ble_eq_true rfl) (Nat.le_of_ble_eq_true rfl) (Nat.le_of_ble_eq_true rfl) (Nat.le_of_ble_eq_true rfl) ?_
                rintro _ G1 _ ⟨rfl, rfl, p1⟩
                refine ax_goto (tgt := 133) dX12_isClause_111 (by decide) ?_
                refine ax_istore_n (i := 3) dX12_isClause_133 rfl (by decide) rfl ?_
                refine ax_iload_n (i := 3) dX12_isClause_134 rfl rfl ?_
                refine ax_if_eq (tgt := 145) dX12_isClause_135 (by decide) (fun c_135 => ?_) (fun c_135 => ?_)
                · refine ax_iconst (v := 0) dX12_isClause_145 (by decide) ?_
                  refine ax_iret dX12_isClause_146 rfl rfl (Nat.le_of_ble_eq_true rfl) (Nat.le_of_ble_eq_true rfl) ?_
                  have nb : ¬ chT T a = 98 := fun z => c_24 (by rw [← ec, z]; rfl)
                  have ed : chT T a = 100 := ec.trans ((nI_eq (by omega) (by decide)).mp (show nI (T.2 a) = nI 100 from c_42))
                  have er : ¬ chT T (a + 1) = 114 := fun z => by have := chT_lt z (by decide); have := (nI_leI (by omega) (by omega)).mp (show nI T.1 ≤ nI (a + 1) from by rw [← nI_1]; exact c_66); omega
                  have e8 : pCl T a = pCw T 1 (pAll T wDi a) := pCl_i ed er
                  have e9 : pCl T a = (false, (pAll T wDi a).2, c0) := by rw [e8, pCw_f (bI_f c_135)]
                  rw [e9]
                  exact ⟨rfl, rfl, rfl, fun z => Bool.noConfusion z, fun _ => SC_PSx hs ⟨_, _, p1⟩⟩
                · obtain ⟨q1, q2, q3⟩ := pAll_ok wDi a (by decide) ha
                  have s1 := bI_t c_135
                  refine ax_aload_n (i := 0) dX12_isClause_138 rfl rfl ?_
                  refine ax_cVq dX12_isClause_139 lk_X12_184 (m_num hZ hTG hT1 hT2 p1 q2) rfl (OKs hZ rfl) ⟨_, rfl, rfl⟩ rfl (Nat.le_of_ble_eq_true rfl) (Nat.le_of_ble_eq_true rfl) (Nat.le_of_ble_eq_true rfl) (Nat.le_of_ble_eq_true rfl) ?_
                  rintro _ G2 _ ⟨rfl, rfl, p2, v2⟩
                  refine ax_if_ne (tgt := 147) dX12_isClause_142 (by decide) (fun c_142 => ?_) (fun c_142 => ?_)
                  · have n0 : ¬ nmC T (pAll T wDi a).2 = 0 := by have := bI_y c_142; omega
                    have hnl := nmC_le (T := T) q2
                    have hs2 := SC_PS hs p2
                    refine ax_aload_n (i := 0) dX12_isClause_147 rfl rfl ?_
                    refine ax_getR dX12_isClause_148 fl_X12_45 rfl (OKs hZ rfl) (OKr hZ rfl) ?_
                    refine ax_iload_n (i := 1) dX12_isClause_151 rfl rfl ?_
                    refine ax_iload_n (i := 2) dX12_isClause_152 rfl rfl ?_
                    refine ax_iastN (10 * h + cls.length) dX12_isClause_153 (OKs hZ rfl) rfl (show _ < 61 by omega) (by decide) ?_
                    refine ax_aload_n (i := 0) dX12_isClause_154 rfl rfl ?_
                    refine ax_getR dX12_isClause_155 fl_X12_48 rfl (OKs hZ rfl) (OKr hZ rfl) ?_
                    refine ax_iload_n (i := 1) dX12_isClause_158 rfl rfl ?_
                    refine ax_aload_n (i := 0) dX12_isClause_159 rfl rfl ?_
                    refine ax_getI dX12_isClause_160 fl_X12_152 rfl (OKs hZ rfl) ?_
                    refine ax_top (congrArg Value.int v2) ?_
                    refine ax_iastN (10 * h + cls.length) dX12_isClause_163 (OKs hZ rfl) rfl (show _ < 61 by omega) (by decide) ?_
                    refine ax_aload_n (i := 0) dX12_isClause_164 rfl rfl ?_
                    refine ax_getR dX12_isClause_165 fl_X12_51 rfl (OKs hZ rfl) (OKr hZ rfl) ?_
                    refine ax_iload_n (i := 1) dX12_isClause_168 rfl rfl ?_
                    refine ax_aload_n (i := 0) dX12_isClause_169 rfl rfl ?_
                    refine ax_getI dX12_isClause_170 fl_X12_174 rfl (OKs hZ rfl) ?_
                    refine ax_top (congrArg Value.int (show _ = nI c from by rw [up2_k (by decide), up2_k (by decide)]; exact p2.2.2.1)) ?_
                    refine ax_iastN (10 * h + cls.length) dX12_isClause_173 (OKs hZ rfl) rfl (show _ < 61 by omega) (by decide) ?_
                    refine ax_aload_n (i := 0) dX12_isClause_174 rfl rfl ?_
                    refine ax_iconst (v := 0) dX12_isClause_175 (by decide) ?_
                    refine ax_putI dX12_isClause_176 fl_X12_190 (Or.inl fp_X12_12_16) rfl rfl rfl (OKs hZ rfl) ?_
                    refine ax_gen (fun G => SD G0 G h b0 ((pAll T wDi a).2 + nmC T (pAll T wDi a).2) c cls 1 (nmV T (pAll T wDi a).2)) ⟨SC_op (SC_up (SC_up (SC_up hs2 (by decide)) (by decide)) (by decide)), by rw [up2_k (by decide), up2_k (by decide), up2_k (by decide), up2_s]; rfl, by rw [up2_k (by decide), up2_k (by decide), up2_s], by rw [up2_k (by decide), up2_s], by rw [up2_s]; rfl⟩ (fun G5 hd => ?_)
                    refine ax_iload_n (i := 2) dX12_isClause_179 rfl rfl ?_
                    refine ax_iconst (v := 2) dX12_isClause_180 (by decide) ?_
                    refine ax_icmp_ge (tgt := 202) dX12_isClause_181 (by decide) (fun c_181 => ?_) (fun c_181 => ?_)
                    · exact absurd c_181 (by decide)
                    · have hT5 := SC_T hd.1 hT
                      refine ax_aload_n (i := 0) dX12_isClause_184 rfl rfl ?_
                      refine ax_bipush (v := 32) dX12_isClause_185 (by decide) ?_
                      refine ax_cVq dX12_isClause_187 lk_X12_171 (m_is hZ hT5 hT1 hT2 (SC_self hd.1 hd.2.2.2.2) hnl 32 (by decide)) rfl (OKs hZ rfl) ⟨_, rfl, rfl⟩ rfl (Nat.le_of_ble_eq_true rfl) (Nat.le_of_ble_eq_true rfl) (Nat.le_of_ble_eq_true rfl) (Nat.le_of_ble_eq_true rfl) ?_
                      rintro _ G3 _ ⟨rfl, rfl, p3⟩
                      refine ax_if_eq (tgt := 200) dX12_isClause_190 (by decide) (fun c_190 => ?_) (fun c_190 => ?_)
                      · refine ax_iconst (v := 0) dX12_isClause_200 (by decide) ?_
                        refine ax_iret dX12_isClause_201 rfl rfl (Nat.le_of_ble_eq_true rfl) (Nat.le_of_ble_eq_true rfl) ?_
                        have nb : ¬ chT T a = 98 := fun z => c_24 (by rw [← ec, z]; rfl)
                        have ed : chT T a = 100 := ec.trans ((nI_eq (by omega) (by decide)).mp (show nI (T.2 a) = nI 100 from c_42))
                        have er : ¬ chT T (a + 1) = 114 := fun z => by have := chT_lt z (by decide); have := (nI_leI (by omega) (by omega)).mp (show nI T.1 ≤ nI (a + 1) from by rw [← nI_1]; exact c_66); omega
                        have e8 : pCl T a = pCw T 1 (pAll T wDi a) := pCl_i ed er
                        have s1 := bI_t c_135
                        have n0 : ¬ nmC T (pAll T wDi a).2 = 0 := by have := bI_y c_142; omega
                        have e7 : pCl T a = pCe T 1 (nmV T (pAll T wDi a).2) ((pAll T wDi a).2 + nmC T (pAll T wDi a).2) := by rw [e8, pCw_e (by decide) s1 n0]
                        have cb := bI_n c_190
                        have e9 : pCl T a = (false, ((pAll T wDi a).2 + nmC T (pAll T wDi a).2), c0) := by rw [e7]; unfold pCe; rw [if_neg cb]
                        rw [if_neg cb] at p3
                        rw [e9]
                        exact ⟨rfl, rfl, rfl, fun z => Bool.noConfusion z, fun _ => SC_PSx hd.1 ⟨_, _, p3⟩⟩
                      · have cb := bI_y c_190
                        rw [if_pos cb] at p3
                        have hl3 := chT_lt cb (by decide)
                        refine ax_aload_n (i := 0) dX12_isClause_193 rfl rfl ?_
                        refine ax_cVq dX12_isClause_194 lk_X12_199 (m_isE4 hZ hT5 hT1 hT2 (by omega) _ (((pAll T wDi a).2 + nmC T (pAll T wDi a).2) + 1) [] p3 hl3 (Nat.zero_le _)) rfl (OKs hZ rfl) ⟨_, rfl, rfl⟩ rfl (Nat.le_of_ble_eq_true rfl) (Nat.le_of_ble_eq_true rfl) (Nat.le_of_ble_eq_true rfl) (Nat.le_of_ble_eq_true rfl) ?_
                        rintro _ G4 _ ⟨rfl, rfl, pt4, pf4⟩
                        refine ax_if_ne (tgt := 202) dX12_isClause_197 (by decide) (fun c_197 => ?_) (fun c_197 => ?_)
                        · have cf := bI_t c_197
                          have pt4 := pt4 cf
                          rw [List.nil_append] at pt4
                          obtain ⟨f1, f2⟩ := pE_ok (pF_ok T 4) 101 (((pAll T wDi a).2 + nmC T (pAll T wDi a).2) + 1) hl3
                          obtain ⟨f3, f4⟩ := f2 cf
                          refine ax_aload_n (i := 0) dX12_isClause_202 rfl rfl ?_
                          refine ax_getR dX12_isClause_203 fl_X12_54 rfl (OKs hZ rfl) (OKr hZ rfl) ?_
                          refine ax_iload_n (i := 1) dX12_isClause_206 rfl rfl ?_
                          refine ax_aload_n (i := 0) dX12_isClause_207 rfl rfl ?_
                          refine ax_getI dX12_isClause_208 fl_X12_174 rfl (OKs hZ rfl) ?_
                          refine ax_top (congrArg Value.int pt4.2.2.1) ?_
                          refine ax_aload_n (i := 0) dX12_isClause_211 rfl rfl ?_
                          refine ax_getR dX12_isClause_212 fl_X12_51 rfl (OKs hZ rfl) (OKr hZ rfl) ?_
                          refine ax_iload_n (i := 1) dX12_isClause_215 rfl rfl ?_
                          refine ax_ialdN (10 * h + cls.length) dX12_isClause_216 (OKs hZ rfl) rfl (show _ < 61 by omega) (by decide) ?_
                          refine ax_top (congrArg Value.int ((congrFun (pt4.2.2.2.2.1 89 (by decide) (by decide)) _).trans hd.2.2.2.1)) ?_
                          refine ax_isub dX12_isClause_217 ?_
                          refine ax_top (congrArg Value.int (add_sub9 c _)) ?_
                          refine ax_iastN (10 * h + cls.length) dX12_isClause_218 (OKs hZ rfl) rfl (show _ < 61 by omega) (by decide) ?_
                          refine ax_iconst (v := 1) dX12_isClause_219 (by decide) ?_
                          refine ax_iret dX12_isClause_220 rfl rfl (Nat.le_of_ble_eq_true rfl) (Nat.le_of_ble_eq_true rfl) ?_
                          have nb : ¬ chT T a = 98 := fun z => c_24 (by rw [← ec, z]; rfl)
                          have ed : chT T a = 100 := ec.trans ((nI_eq (by omega) (by decide)).mp (show nI (T.2 a) = nI 100 from c_42))
                          have er : ¬ chT T (a + 1) = 114 := fun z => by have := chT_lt z (by decide); have := (nI_leI (by omega) (by omega)).mp (show nI T.1 ≤ nI (a + 1) from by rw [← nI_1]; exact c_66); omega
                          have e8 : pCl T a = pCw T 1 (pAll T wDi a) := pCl_i ed er
                          have s1 := bI_t c_135
                          have n0 : ¬ nmC T (pAll T wDi a).2 = 0 := by have := bI_y c_142; omega
                          have e7 : pCl T a = pCe T 1 (nmV T (pAll T wDi a).2) ((pAll T wDi a).2 + nmC T (pAll T wDi a).2) := by rw [e8, pCw_e (by decide) s1 n0]
                          have cb := bI_y c_190
                          have e9 : pCl T a = (true, (pE (pF T 4) T 101 (((pAll T wDi a).2 + nmC T (pAll T wDi a).2) + 1)).2.1, (1, nmV T (pAll T wDi a).2, (pE (pF T 4) T 101 (((pAll T wDi a).2 + nmC T (pAll T wDi a).2) + 1)).2.2)) := by rw [e7]; unfold pCe; rw [if_pos cb, if_pos cf]
                          rw [e9]
                          exact ⟨rfl, rfl, rfl, fun _ => ⟨c + (pE (pF T 4) T 101 (((pAll T wDi a).2 + nmC T (pAll T wDi a).2) + 1)).2.2.length, SD_end hd pt4 rfl, Nat.le_add_right _ _, by show c + (pE (pF T 4) T 101 (((pAll T wDi a).2 + nmC T (pAll T wDi a).2) + 1)).2.2.length ≤ b0 + (pE (pF T 4) T 101 (((pAll T wDi a).2 + nmC T (pAll T wDi a).2) + 1)).2.1; omega⟩, fun z => Bool.noConfusion z⟩
                        · refine ax_iconst (v := 0) dX12_isClause_200 (by decide) ?_
                          refine ax_iret dX12_isClause_201 rfl rfl (Nat.le_of_ble_eq_true rfl) (Nat.le_of_ble_eq_true rfl) ?_
                          have nb : ¬ chT T a = 98 := fun z => c_24 (by rw [← ec, z]; rfl)
                          have ed : chT T a = 100 := ec.trans ((nI_eq (by omega) (by decide)).mp (show nI (T.2 a) = nI 100 from c_42))
                          have er : ¬ chT T (a + 1) = 114 := fun z => by have := chT_lt z (by decide); have := (nI_leI (by omega) (by omega)).mp (show nI T.1 ≤ nI (a + 1) from by rw [← nI_1]; exact c_66); omega
                          have e8 : pCl T a = pCw T 1 (pAll T wDi a) := pCl_i ed er
                          have s1 := bI_t c_135
                          have n0 : ¬ nmC T (pAll T wDi a).2 = 0 := by have := bI_y c_142; omega
                          have e7 : pCl T a = pCe T 1 (nmV T (pAll T wDi a).2) ((pAll T wDi a).2 + nmC T (pAll T wDi a).2) := by rw [e8, pCw_e (by decide) s1 n0]
                          have cb := bI_y c_190
                          have e9 : pCl T a = (false, (pE (pF T 4) T 101 (((pAll T wDi a).2 + nmC T (pAll T wDi a).2) + 1)).2.1, c0) := by rw [e7]; unfold pCe; rw [if_pos cb, if_neg (by rw [bI_f c_197]; decide)]
                          rw [e9]
                          exact ⟨rfl, rfl, rfl, fun z => Bool.noConfusion z, fun _ => SC_PSx hd.1 (pf4 (bI_f c_197))⟩
                  · refine ax_iconst (v := 0) dX12_isClause_145 (by decide) ?_
                    refine ax_iret dX12_isClause_146 rfl rfl (Nat.le_of_ble_eq_true rfl) (Nat.le_of_ble_eq_true rfl) ?_
                    have nb : ¬ chT T a = 98 := fun z => c_24 (by rw [← ec, z]; rfl)
                    have ed : chT T a = 100 := ec.trans ((nI_eq (by omega) (by decide)).mp (show nI (T.2 a) = nI 100 from c_42))
                    have er : ¬ chT T (a + 1) = 114 := fun z => by have := chT_lt z (by decide); have := (nI_leI (by omega) (by omega)).mp (show nI T.1 ≤ nI (a + 1) from by rw [← nI_1]; exact c_66); omega
                    have e8 : pCl T a = pCw T 1 (pAll T wDi a) := pCl_i ed er
                    have s1 := bI_t c_135
                    have n0 : nmC T (pAll T wDi a).2 = 0 := by have := bI_n c_142; omega
                    have e9 : pCl T a = (false, (pAll T wDi a).2, c0) := by rw [e8, pCw_0 s1 n0]
                    rw [n0] at p2
                    rw [e9]
                    exact ⟨rfl, rfl, rfl, fun z => Bool.noConfusion z, fun _ => SC_PSx hs ⟨_, _, p2⟩⟩
            · exact absurd c_88 (by decide)
          · have hl2 : a + 1 < T.1 := by have := mt (nI_leI (by omega) (by omega)).mpr (show ¬ nI T.1 ≤ nI (a + 1) from by rw [← nI_1]; exact c_66); omega
            have ec2 : chT T (a + 1) = T.2 (a + 1) := by unfold chT; rw [if_pos hl2]
            have h129 := hT2 _ hl2
            refine ax_aload_n (i := 0) dX12_isClause_69 rfl rfl ?_
            refine ax_getR dX12_isClause_70 fl_X12_39 rfl (OKs hZ rfl) (OKr hZ rfl) ?_
            refine ax_aload_n (i := 0) dX12_isClause_73 rfl rfl ?_
            refine ax_getI dX12_isClause_74 fl_X12_149 rfl (OKs hZ rfl) ?_
            refine ax_top (congrArg Value.int hs.1) ?_
            refine ax_iconst (v := 1) dX12_isClause_77 (by decide) ?_
            refine ax_iadd dX12_isClause_78 ?_
            refine ax_ialdN (a + 1) dX12_isClause_79 (OKs hZ rfl) (nI_1 a) (show a + 1 < 100 by omega) (by decide) ?_
            refine ax_top (congrArg Value.int (hTG.2 (a + 1) hl2)) ?_
            refine ax_bipush (v := 114) dX12_isClause_80 (by decide) ?_
            refine ax_icmp_ne (tgt := 87) dX12_isClause_82 (by decide) (fun c_82 => ?_) (fun c_82 => ?_)
            · refine ax_iload_n (i := 2) dX12_isClause_87 rfl rfl ?_
              refine ax_if_ne (tgt := 100) dX12_isClause_88 (by decide) (fun c_88 => ?_) (fun c_88 => ?_)
              · refine ax_iload_n (i := 2) dX12_isClause_100 rfl rfl ?_
                refine ax_iconst (v := 1) dX12_isClause_101 (by decide) ?_
                refine ax_icmp_ne (tgt := 114) dX12_isClause_102 (by decide) (fun c_102 => ?_) (fun c_102 => ?_)
                · exact absurd (by decide) c_102
                · refine ax_aload_n (i := 0) dX12_isClause_105 rfl rfl ?_
                  refine ax_ldcS (i := 4) (tx := "dim ") dX12_isClause_106 (by decide) ?_
                  refine ax_cVq dX12_isClause_108 lk_X12_210 (m_all hZ hTG hT1 hT2 (i := 4) (by decide) wDi rfl hw_di hp ha) rfl (OKs hZ rfl) ⟨_, rfl, rfl⟩ rfl (Nat.le_of_ble_eq_true rfl) (Nat.le_of_ble_eq_true rfl) (Nat.le_of_ble_eq_true rfl) (Nat.le_of_ble_eq_true rfl) ?_
                  rintro _ G1 _ ⟨rfl, rfl, p1⟩
                  refine ax_goto (tgt := 133) dX12_isClause_111 (by decide) ?_
                  refine ax_istore_n (i := 3) dX12_isClause_133 rfl (by decide) rfl ?_
                  refine ax_iload_n (i := 3) dX12_isClause_134 rfl rfl ?_
                  refine ax_if_eq (tgt := 145) dX12_isClause_135 (by decide) (fun c_135 => ?_) (fun c_135 => ?_)
                  · refine ax_iconst (v := 0) dX12_isClause_145 (by decide) ?_
                    refine ax_iret dX12_isClause_146 rfl rfl (Nat.le_of_ble_eq_true rfl) (Nat.le_of_ble_eq_true rfl) ?_
                    have nb : ¬ chT T a = 98 := fun z => c_24 (by rw [← ec, z]; rfl)
                    have ed : chT T a = 100 := ec.trans ((nI_eq (by omega) (by decide)).mp (show nI (T.2 a) = nI 100 from c_42))
                    have er : ¬ chT T (a + 1) = 114 := fun z => c_82 (by rw [← ec2, z]; rfl)
                    have e8 : pCl T a = pCw T 1 (pAll T wDi a) := pCl_i ed er
                    have e9 : pCl T a = (false, (pAll T wDi a).2, c0) := by rw [e8, pCw_f (bI_f c_135)]
                    rw [e9]
                    exact ⟨rfl, rfl, rfl, fun z => Bool.noConfusion z, fun _ => SC_PSx hs ⟨_, _, p1⟩⟩
                  · obtain ⟨q1, q2, q3⟩ := pAll_ok wDi a (by decide) ha
                    have s1 := bI_t c_135
                    refine ax_aload_n (i := 0) dX12_isClause_138 rfl rfl ?_
                    refine ax_cVq dX12_isClause_139 lk_X12_184 (m_num hZ hTG hT1 hT2 p1 q2) rfl (OKs hZ rfl) ⟨_, rfl, rfl⟩ rfl (Nat.le_of_ble_eq_true rfl) (Nat.le_of_ble_eq_true rfl) (Nat.le_of_ble_eq_true rfl) (Nat.le_of_ble_eq_true rfl) ?_
                    rintro _ G2 _ ⟨rfl, rfl, p2, v2⟩
                    refine ax_if_ne (tgt := 147) dX12_isClause_142 (by decide) (fun c_142 => ?_) (fun c_142 => ?_)
                    · have n0 : ¬ nmC T (pAll T wDi a).2 = 0 := by have := bI_y c_142; omega
                      have hnl := nmC_le (T := T) q2
                      have hs2 := SC_PS hs p2
                      refine ax_aload_n (i := 0) dX12_isClause_147 rfl rfl ?_
                      refine ax_getR dX12_isClause_148 fl_X12_45 rfl (OKs hZ rfl) (OKr hZ rfl) ?_
                      refine ax_iload_n (i := 1) dX12_isClause_151 rfl rfl ?_
                      refine ax_iload_n (i := 2) dX12_isClause_152 rfl rfl ?_
                      refine ax_iastN (10 * h + cls.length) dX12_isClause_153 (OKs hZ rfl) rfl (show _ < 61 by omega) (by decide) ?_
                      refine ax_aload_n (i := 0) dX12_isClause_154 rfl rfl ?_
                      refine ax_getR dX12_isClause_155 fl_X12_48 rfl (OKs hZ rfl) (OKr hZ rfl) ?_
                      refine ax_iload_n (i := 1) dX12_isClause_158 rfl rfl ?_
                      refine ax_aload_n (i := 0) dX12_isClause_159 rfl rfl ?_
                      refine ax_getI dX12_isClause_160 fl_X12_152 rfl (OKs hZ rfl) ?_
                      refine ax_top (congrArg Value.int v2) ?_
                      refine ax_iastN (10 * h + cls.length) dX12_isClause_163 (OKs hZ rfl) rfl (show _ < 61 by omega) (by decide) ?_
                      refine ax_aload_n (i := 0) dX12_isClause_164 rfl rfl ?_
                      refine ax_getR dX12_isClause_165 fl_X12_51 rfl (OKs hZ rfl) (OKr hZ rfl) ?_
                      refine ax_iload_n (i := 1) dX12_isClause_168 rfl rfl ?_
                      refine ax_aload_n (i := 0) dX12_isClause_169 rfl rfl ?_
                      refine ax_getI dX12_isClause_170 fl_X12_174 rfl (OKs hZ rfl) ?_
                      refine ax_top (congrArg Value.int (show _ = nI c from by rw [up2_k (by decide), up2_k (by decide)]; exact p2.2.2.1)) ?_
                      refine ax_iastN (10 * h + cls.length) dX12_isClause_173 (OKs hZ rfl) rfl (show _ < 61 by omega) (by decide) ?_
                      refine ax_aload_n (i := 0) dX12_isClause_174 rfl rfl ?_
                      refine ax_iconst (v := 0) dX12_isClause_175 (by decide) ?_
                      refine ax_putI dX12_isClause_176 fl_X12_190 (Or.inl fp_X12_12_16) rfl rfl rfl (OKs hZ rfl) ?_
                      refine ax_gen (fun G => SD G0 G h b0 ((pAll T wDi a).2 + nmC T (pAll T wDi a).2) c cls 1 (nmV T (pAll T wDi a).2)) ⟨SC_op (SC_up (SC_up (SC_up hs2 (by decide)) (by decide)) (by decide)), by rw [up2_k (by decide), up2_k (by decide), up2_k (by decide), up2_s]; rfl, by rw [up2_k (by decide), up2_k (by decide), up2_s], by rw [up2_k (by decide), up2_s], by rw [up2_s]; rfl⟩ (fun G5 hd => ?_)
                      refine ax_iload_n (i := 2) dX12_isClause_179 rfl rfl ?_
                      refine ax_iconst (v := 2) dX12_isClause_180 (by decide) ?_
                      refine ax_icmp_ge (tgt := 202) dX12_isClause_181 (by decide) (fun c_181 => ?_) (fun c_181 => ?_)
                      · exact absurd c_181 (by decide)
                      · have hT5 := SC_T hd.1 hT
                        refine ax_aload_n (i := 0) dX12_isClause_184 rfl rfl ?_
                        refine ax_bipush (v := 32) dX12_isClause_185 (by decide) ?_
                        refine ax_cVq dX12_isClause_187 lk_X12_171 (m_is hZ hT5 hT1 hT2 (SC_self hd.1 hd.2.2.2.2) hnl 32 (by decide)) rfl (OKs hZ rfl) ⟨_, rfl, rfl⟩ rfl (Nat.le_of_ble_eq_true rfl) (Nat.le_of_ble_eq_true rfl) (Nat.le_of_ble_eq_true rfl) (Nat.le_of_ble_eq_true rfl) ?_
                        rintro _ G3 _ ⟨rfl, rfl, p3⟩
                        refine ax_if_eq (tgt := 200) dX12_isClause_190 (by decide) (fun c_190 => ?_) (fun c_190 => ?_)
                        · refine ax_iconst (v := 0) dX12_isClause_200 (by decide) ?_
                          refine ax_iret dX12_isClause_201 rfl rfl (Nat.le_of_ble_eq_true rfl) (Nat.le_of_ble_eq_true rfl) ?_
                          have nb : ¬ chT T a = 98 := fun z => c_24 (by rw [← ec, z]; rfl)
                          have ed : chT T a = 100 := ec.trans ((nI_eq (by omega) (by decide)).mp (show nI (T.2 a) = nI 100 from c_42))
                          have er : ¬ chT T (a + 1) = 114 := fun z => c_82 (by rw [← ec2, z]; rfl)
                          have e8 : pCl T a = pCw T 1 (pAll T wDi a) := pCl_i ed er
                          have s1 := bI_t c_135
                          have n0 : ¬ nmC T (pAll T wDi a).2 = 0 := by have := bI_y c_142; omega
                          have e7 : pCl T a = pCe T 1 (nmV T (pAll T wDi a).2) ((pAll T wDi a).2 + nmC T (pAll T wDi a).2) := by rw [e8, pCw_e (by decide) s1 n0]
                          have cb := bI_n c_190
                          have e9 : pCl T a = (false, ((pAll T wDi a).2 + nmC T (pAll T wDi a).2), c0) := by rw [e7]; unfold pCe; rw [if_neg cb]
                          rw [if_neg cb] at p3
                          rw [e9]
                          exact ⟨rfl, rfl, rfl, fun z => Bool.noConfusion z, fun _ => SC_PSx hd.1 ⟨_, _, p3⟩⟩
                        · have cb := bI_y c_190
                          rw [if_pos cb] at p3
                          have hl3 := chT_lt cb (by decide)
                          refine ax_aload_n (i := 0) dX12_isClause_193 rfl rfl ?_
                          refine ax_cVq dX12_isClause_194 lk_X12_199 (m_isE4 hZ hT5 hT1 hT2 (by omega) _ (((pAll T wDi a).2 + nmC T (pAll T wDi a).2) + 1) [] p3 hl3 (Nat.zero_le _)) rfl (OKs hZ rfl) ⟨_, rfl, rfl⟩ rfl (Nat.le_of_ble_eq_true rfl) (Nat.le_of_ble_eq_true rfl) (Nat.le_of_ble_eq_true rfl) (Nat.le_of_ble_eq_true rfl) ?_
                          rintro _ G4 _ ⟨rfl, rfl, pt4, pf4⟩
                          refine ax_if_ne (tgt := 202) dX12_isClause_197 (by decide) (fun c_197 => ?_) (fun c_197 => ?_)
                          · have cf := bI_t c_197
                            have pt4 := pt4 cf
                            rw [List.nil_append] at pt4
                            obtain ⟨f1, f2⟩ := pE_ok (pF_ok T 4) 101 (((pAll T wDi a).2 + nmC T (pAll T wDi a).2) + 1) hl3
                            obtain ⟨f3, f4⟩ := f2 cf
                            refine ax_aload_n (i := 0) dX12_isClause_202 rfl rfl ?_
                            refine ax_getR dX12_isClause_203 fl_X12_54 rfl (OKs hZ rfl) (OKr hZ rfl) ?_
                            refine ax_iload_n (i := 1) dX12_isClause_206 rfl rfl ?_
                            refine ax_aload_n (i := 0) dX12_isClause_207 rfl rfl ?_
                            refine ax_getI dX12_isClause_208 fl_X12_174 rfl (OKs hZ rfl) ?_
                            refine ax_top (congrArg Value.int pt4.2.2.1) ?_
                            refine ax_aload_n (i := 0) dX12_isClause_211 rfl rfl ?_
                            refine ax_getR dX12_isClause_212 fl_X12_51 rfl (OKs hZ rfl) (OKr hZ rfl) ?_
                            refine ax_iload_n (i := 1) dX12_isClause_215 rfl rfl ?_
                            refine ax_ialdN (10 * h + cls.length) dX12_isClause_216 (OKs hZ rfl) rfl (show _ < 61 by omega) (by decide) ?_
                            refine ax_top (congrArg Value.int ((congrFun (pt4.2.2.2.2.1 89 (by decide) (by decide)) _).trans hd.2.2.2.1)) ?_
                            refine ax_isub dX12_isClause_217 ?_
                            refine ax_top (congrArg Value.int (add_sub9 c _)) ?_
                            refine ax_iastN (10 * h + cls.length) dX12_isClause_218 (OKs hZ rfl) rfl (show _ < 61 by omega) (by decide) ?_
                            refine ax_iconst (v := 1) dX12_isClause_219 (by decide) ?_
                            refine ax_iret dX12_isClause_220 rfl rfl (Nat.le_of_ble_eq_true rfl) (Nat.le_of_ble_eq_true rfl) ?_
                            have nb : ¬ chT T a = 98 := fun z => c_24 (by rw [← ec, z]; rfl)
                            have ed : chT T a = 100 := ec.trans ((nI_eq (by omega) (by decide)).mp (show nI (T.2 a) = nI 100 from c_42))
                            have er : ¬ chT T (a + 1) = 114 := fun z => c_82 (by rw [← ec2, z]; rfl)
                            have e8 : pCl T a = pCw T 1 (pAll T wDi a) := pCl_i ed er
                            have s1 := bI_t c_135
                            have n0 : ¬ nmC T (pAll T wDi a).2 = 0 := by have := bI_y c_142; omega
                            have e7 : pCl T a = pCe T 1 (nmV T (pAll T wDi a).2) ((pAll T wDi a).2 + nmC T (pAll T wDi a).2) := by rw [e8, pCw_e (by decide) s1 n0]
                            have cb := bI_y c_190
                            have e9 : pCl T a = (true, (pE (pF T 4) T 101 (((pAll T wDi a).2 + nmC T (pAll T wDi a).2) + 1)).2.1, (1, nmV T (pAll T wDi a).2, (pE (pF T 4) T 101 (((pAll T wDi a).2 + nmC T (pAll T wDi a).2) + 1)).2.2)) := by rw [e7]; unfold pCe; rw [if_pos cb, if_pos cf]
                            rw [e9]
                            exact ⟨rfl, rfl, rfl, fun _ => ⟨c + (pE (pF T 4) T 101 (((pAll T wDi a).2 + nmC T (pAll T wDi a).2) + 1)).2.2.length, SD_end hd pt4 rfl, Nat.le_add_right _ _, by show c + (pE (pF T 4) T 101 (((pAll T wDi a).2 + nmC T (pAll T wDi a).2) + 1)).2.2.length ≤ b0 + (pE (pF T 4) T 101 (((pAll T wDi a).2 + nmC T (pAll T wDi a).2) + 1)).2.1; omega⟩, fun z => Bool.noConfusion z⟩
                          · refine ax_iconst (v := 0) dX12_isClause_200 (by decide) ?_
                            refine ax_iret dX12_isClause_201 rfl rfl (Nat.le_of_ble_eq_true rfl) (Nat.le_of_ble_eq_true rfl) ?_
                            have nb : ¬ chT T a = 98 := fun z => c_24 (by rw [← ec, z]; rfl)
                            have ed : chT T a = 100 := ec.trans ((nI_eq (by omega) (by decide)).mp (show nI (T.2 a) = nI 100 from c_42))
                            have er : ¬ chT T (a + 1) = 114 := fun z => c_82 (by rw [← ec2, z]; rfl)
                            have e8 : pCl T a = pCw T 1 (pAll T wDi a) := pCl_i ed er
                            have s1 := bI_t c_135
                            have n0 : ¬ nmC T (pAll T wDi a).2 = 0 := by have := bI_y c_142; omega
                            have e7 : pCl T a = pCe T 1 (nmV T (pAll T wDi a).2) ((pAll T wDi a).2 + nmC T (pAll T wDi a).2) := by rw [e8, pCw_e (by decide) s1 n0]
                            have cb := bI_y c_190
                            have e9 : pCl T a = (false, (pE (pF T 4) T 101 (((pAll T wDi a).2 + nmC T (pAll T wDi a).2) + 1)).2.1, c0) := by rw [e7]; unfold pCe; rw [if_pos cb, if_neg (by rw [bI_f c_197]; decide)]
                            rw [e9]
                            exact ⟨rfl, rfl, rfl, fun z => Bool.noConfusion z, fun _ => SC_PSx hd.1 (pf4 (bI_f c_197))⟩
                    · refine ax_iconst (v := 0) dX12_isClause_145 (by decide) ?_
                      refine ax_iret dX12_isClause_146 rfl rfl (Nat.le_of_ble_eq_true rfl) (Nat.le_of_ble_eq_true rfl) ?_
                      have nb : ¬ chT T a = 98 := fun z => c_24 (by rw [← ec, z]; rfl)
                      have ed : chT T a = 100 := ec.trans ((nI_eq (by omega) (by decide)).mp (show nI (T.2 a) = nI 100 from c_42))
                      have er : ¬ chT T (a + 1) = 114 := fun z => c_82 (by rw [← ec2, z]; rfl)
                      have e8 : pCl T a = pCw T 1 (pAll T wDi a) := pCl_i ed er
                      have s1 := bI_t c_135
                      have n0 : nmC T (pAll T wDi a).2 = 0 := by have := bI_n c_142; omega
                      have e9 : pCl T a = (false, (pAll T wDi a).2, c0) := by rw [e8, pCw_0 s1 n0]
                      rw [n0] at p2
                      rw [e9]
                      exact ⟨rfl, rfl, rfl, fun z => Bool.noConfusion z, fun _ => SC_PSx hs ⟨_, _, p2⟩⟩
              · exact absurd c_88 (by decide)
            · refine ax_iconst (v := 2) dX12_isClause_85 (by decide) ?_
              refine ax_istore_n (i := 2) dX12_isClause_86 rfl (by decide) rfl ?_
              refine ax_iload_n (i := 2) dX12_isClause_87 rfl rfl ?_
              refine ax_if_ne (tgt := 100) dX12_isClause_88 (by decide) (fun c_88 => ?_) (fun c_88 => ?_)
              · refine ax_iload_n (i := 2) dX12_isClause_100 rfl rfl ?_
                refine ax_iconst (v := 1) dX12_isClause_101 (by decide) ?_
                refine ax_icmp_ne (tgt := 114) dX12_isClause_102 (by decide) (fun c_102 => ?_) (fun c_102 => ?_)
                · refine ax_iload_n (i := 2) dX12_isClause_114 rfl rfl ?_
                  refine ax_iconst (v := 2) dX12_isClause_115 (by decide) ?_
                  refine ax_icmp_ne (tgt := 132) dX12_isClause_116 (by decide) (fun c_116 => ?_) (fun c_116 => ?_)
                  · exact absurd (by decide) c_116
                  · refine ax_aload_n (i := 0) dX12_isClause_119 rfl rfl ?_
                    refine ax_ldcS (i := 5) (tx := "dry ") dX12_isClause_120 (by decide) ?_
                    refine ax_cVq dX12_isClause_122 lk_X12_210 (m_all hZ hTG hT1 hT2 (i := 5) (by decide) wDr rfl hw_dr hp ha) rfl (OKs hZ rfl) ⟨_, rfl, rfl⟩ rfl (Nat.le_of_ble_eq_true rfl) (Nat.le_of_ble_eq_true rfl) (Nat.le_of_ble_eq_true rfl) (Nat.le_of_ble_eq_true rfl) ?_
                    rintro _ G1 _ ⟨rfl, rfl, p1⟩
                    refine ax_if_eq (tgt := 132) dX12_isClause_125 (by decide) (fun c_125 => ?_) (fun c_125 => ?_)
                    · refine ax_iconst (v := 0) dX12_isClause_132 (by decide) ?_
                      refine ax_istore_n (i := 3) dX12_isClause_133 rfl (by decide) rfl ?_
                      refine ax_iload_n (i := 3) dX12_isClause_134 rfl rfl ?_
                      refine ax_if_eq (tgt := 145) dX12_isClause_135 (by decide) (fun c_135 => ?_) (fun c_135 => ?_)
                      · refine ax_iconst (v := 0) dX12_isClause_145 (by decide) ?_
                        refine ax_iret dX12_isClause_146 rfl rfl (Nat.le_of_ble_eq_true rfl) (Nat.le_of_ble_eq_true rfl) ?_
                        have nb : ¬ chT T a = 98 := fun z => c_24 (by rw [← ec, z]; rfl)
                        have ed : chT T a = 100 := ec.trans ((nI_eq (by omega) (by decide)).mp (show nI (T.2 a) = nI 100 from c_42))
                        have er : chT T (a + 1) = 114 := ec2.trans ((nI_eq (by omega) (by decide)).mp (show nI (T.2 (a + 1)) = nI 114 from c_82))
                        have e8 : pCl T a = pCw T 2 (pAll T wDr a) := pCl_r ed er
                        have e9 : pCl T a = (false, (pAll T wDr a).2, c0) := by rw [e8, pCw_f (bI_f c_125)]
                        rw [e9]
                        exact ⟨rfl, rfl, rfl, fun z => Bool.noConfusion z, fun _ => SC_PSx hs ⟨_, _, p1⟩⟩
                      · exact absurd (by decide) c_135
                    · refine ax_iconst (v := 1) dX12_isClause_128 (by decide) ?_
                      refine ax_goto (tgt := 133) dX12_isClause_129 (by decide) ?_
                      refine ax_istore_n (i := 3) dX12_isClause_133 rfl (by decide) rfl ?_
                      refine ax_iload_n (i := 3) dX12_isClause_134 rfl rfl ?_
                      refine ax_if_eq (tgt := 145) dX12_isClause_135 (by decide) (fun c_135 => ?_) (fun c_135 => ?_)
                      · exact absurd c_135 (by decide)
                      · obtain ⟨q1, q2, q3⟩ := pAll_ok wDr a (by decide) ha
                        have s1 := bI_t c_125
                        refine ax_aload_n (i := 0) dX12_isClause_138 rfl rfl ?_
                        refine ax_cVq dX12_isClause_139 lk_X12_184 (m_num hZ hTG hT1 hT2 p1 q2) rfl (OKs hZ rfl) ⟨_, rfl, rfl⟩ rfl (Nat.le_of_ble_eq_true rfl) (Nat.le_of_ble_eq_true rfl) (Nat.le_of_ble_eq_true rfl) (Nat.le_of_ble_eq_true rfl) ?_
                        rintro _ G2 _ ⟨rfl, rfl, p2, v2⟩
                        refine ax_if_ne (tgt := 147) dX12_isClause_142 (by decide) (fun c_142 => ?_) (fun c_142 => ?_)
                        · have n0 : ¬ nmC T (pAll T wDr a).2 = 0 := by have := bI_y c_142; omega
                          have hnl := nmC_le (T := T) q2
                          have hs2 := SC_PS hs p2
                          refine ax_aload_n (i := 0) dX12_isClause_147 rfl rfl ?_
                          refine ax_getR dX12_isClause_148 fl_X12_45 rfl (OKs hZ rfl) (OKr hZ rfl) ?_
                          refine ax_iload_n (i := 1) dX12_isClause_151 rfl rfl ?_
                          refine ax_iload_n (i := 2) dX12_isClause_152 rfl rfl ?_
                          refine ax_iastN (10 * h + cls.length) dX12_isClause_153 (OKs hZ rfl) rfl (show _ < 61 by omega) (by decide) ?_
                          refine ax_aload_n (i := 0) dX12_isClause_154 rfl rfl ?_
                          refine ax_getR dX12_isClause_155 fl_X12_48 rfl (OKs hZ rfl) (OKr hZ rfl) ?_
                          refine ax_iload_n (i := 1) dX12_isClause_158 rfl rfl ?_
                          refine ax_aload_n (i := 0) dX12_isClause_159 rfl rfl ?_
                          refine ax_getI dX12_isClause_160 fl_X12_152 rfl (OKs hZ rfl) ?_
                          refine ax_top (congrArg Value.int v2) ?_
                          refine ax_iastN (10 * h + cls.length) dX12_isClause_163 (OKs hZ rfl) rfl (show _ < 61 by omega) (by decide) ?_
                          refine ax_aload_n (i := 0) dX12_isClause_164 rfl rfl ?_
                          refine ax_getR dX12_isClause_165 fl_X12_51 rfl (OKs hZ rfl) (OKr hZ rfl) ?_
                          refine ax_iload_n (i := 1) dX12_isClause_168 rfl rfl ?_
                          refine ax_aload_n (i := 0) dX12_isClause_169 rfl rfl ?_
                          refine ax_getI dX12_isClause_170 fl_X12_174 rfl (OKs hZ rfl) ?_
                          refine ax_top (congrArg Value.int (show _ = nI c from by rw [up2_k (by decide), up2_k (by decide)]; exact p2.2.2.1)) ?_
                          refine ax_iastN (10 * h + cls.length) dX12_isClause_173 (OKs hZ rfl) rfl (show _ < 61 by omega) (by decide) ?_
                          refine ax_aload_n (i := 0) dX12_isClause_174 rfl rfl ?_
                          refine ax_iconst (v := 0) dX12_isClause_175 (by decide) ?_
                          refine ax_putI dX12_isClause_176 fl_X12_190 (Or.inl fp_X12_12_16) rfl rfl rfl (OKs hZ rfl) ?_
                          refine ax_gen (fun G => SD G0 G h b0 ((pAll T wDr a).2 + nmC T (pAll T wDr a).2) c cls 2 (nmV T (pAll T wDr a).2)) ⟨SC_op (SC_up (SC_up (SC_up hs2 (by decide)) (by decide)) (by decide)), by rw [up2_k (by decide), up2_k (by decide), up2_k (by decide), up2_s]; rfl, by rw [up2_k (by decide), up2_k (by decide), up2_s], by rw [up2_k (by decide), up2_s], by rw [up2_s]; rfl⟩ (fun G5 hd => ?_)
                          refine ax_iload_n (i := 2) dX12_isClause_179 rfl rfl ?_
                          refine ax_iconst (v := 2) dX12_isClause_180 (by decide) ?_
                          refine ax_icmp_ge (tgt := 202) dX12_isClause_181 (by decide) (fun c_181 => ?_) (fun c_181 => ?_)
                          · 
                            refine ax_aload_n (i := 0) dX12_isClause_202 rfl rfl ?_
                            refine ax_getR dX12_isClause_203 fl_X12_54 rfl (OKs hZ rfl) (OKr hZ rfl) ?_
                            refine ax_iload_n (i := 1) dX12_isClause_206 rfl rfl ?_
                            refine ax_aload_n (i := 0) dX12_isClause_207 rfl rfl ?_
                            refine ax_getI dX12_isClause_208 fl_X12_174 rfl (OKs hZ rfl) ?_
                            refine ax_top (congrArg Value.int hd.1.2.1) ?_
                            refine ax_aload_n (i := 0) dX12_isClause_211 rfl rfl ?_
                            refine ax_getR dX12_isClause_212 fl_X12_51 rfl (OKs hZ rfl) (OKr hZ rfl) ?_
                            refine ax_iload_n (i := 1) dX12_isClause_215 rfl rfl ?_
                            refine ax_ialdN (10 * h + cls.length) dX12_isClause_216 (OKs hZ rfl) rfl (show _ < 61 by omega) (by decide) ?_
                            refine ax_top (congrArg Value.int hd.2.2.2.1) ?_
                            refine ax_isub dX12_isClause_217 ?_
                            refine ax_top (congrArg Value.int (show nI c - nI c = nI 0 from (pk_sub (Nat.le_refl _)).trans (by rw [Nat.sub_self]))) ?_
                            refine ax_iastN (10 * h + cls.length) dX12_isClause_218 (OKs hZ rfl) rfl (show _ < 61 by omega) (by decide) ?_
                            refine ax_iconst (v := 1) dX12_isClause_219 (by decide) ?_
                            refine ax_iret dX12_isClause_220 rfl rfl (Nat.le_of_ble_eq_true rfl) (Nat.le_of_ble_eq_true rfl) ?_
                            have nb : ¬ chT T a = 98 := fun z => c_24 (by rw [← ec, z]; rfl)
                            have ed : chT T a = 100 := ec.trans ((nI_eq (by omega) (by decide)).mp (show nI (T.2 a) = nI 100 from c_42))
                            have er : chT T (a + 1) = 114 := ec2.trans ((nI_eq (by omega) (by decide)).mp (show nI (T.2 (a + 1)) = nI 114 from c_82))
                            have e8 : pCl T a = pCw T 2 (pAll T wDr a) := pCl_r ed er
                            have s1 := bI_t c_125
                            have n0 : ¬ nmC T (pAll T wDr a).2 = 0 := by have := bI_y c_142; omega
                            have e9 : pCl T a = (true, (pAll T wDr a).2 + nmC T (pAll T wDr a).2, (2, nmV T (pAll T wDr a).2, [])) := by rw [e8, pCw_2 s1 n0]
                            rw [e9]
                            exact ⟨rfl, rfl, rfl, fun _ => ⟨c, SD_end hd (SC_self (T := T) hd.1 hd.2.2.2.2) rfl, Nat.le_refl _, by show c ≤ b0 + ((pAll T wDr a).2 + nmC T (pAll T wDr a).2); omega⟩, fun z => Bool.noConfusion z⟩
                          · exact absurd (by decide) c_181
                        · refine ax_iconst (v := 0) dX12_isClause_145 (by decide) ?_
                          refine ax_iret dX12_isClause_146 rfl rfl (Nat.le_of_ble_eq_true rfl) (Nat.le_of_ble_eq_true rfl) ?_
                          have nb : ¬ chT T a = 98 := fun z => c_24 (by rw [← ec, z]; rfl)
                          have ed : chT T a = 100 := ec.trans ((nI_eq (by omega) (by decide)).mp (show nI (T.2 a) = nI 100 from c_42))
                          have er : chT T (a + 1) = 114 := ec2.trans ((nI_eq (by omega) (by decide)).mp (show nI (T.2 (a + 1)) = nI 114 from c_82))
                          have e8 : pCl T a = pCw T 2 (pAll T wDr a) := pCl_r ed er
                          have s1 := bI_t c_125
                          have n0 : nmC T (pAll T wDr a).2 = 0 := by have := bI_n c_142; omega
                          have e9 : pCl T a = (false, (pAll T wDr a).2, c0) := by rw [e8, pCw_0 s1 n0]
                          rw [n0] at p2
                          rw [e9]
                          exact ⟨rfl, rfl, rfl, fun z => Bool.noConfusion z, fun _ => SC_PSx hs ⟨_, _, p2⟩⟩
                · exact absurd c_102 (by decide)
              · exact absurd c_88 (by decide)
    · refine ax_iconst (v := 0) dX12_isClause_27 (by decide) ?_
      refine ax_goto (tgt := 50) dX12_isClause_28 (by decide) ?_
      refine ax_istore_n (i := 2) dX12_isClause_50 rfl (by decide) rfl ?_
      refine ax_iload_n (i := 2) dX12_isClause_51 rfl rfl ?_
      refine ax_iconst (v := 1) dX12_isClause_52 (by decide) ?_
      refine ax_icmp_ne (tgt := 87) dX12_isClause_53 (by decide) (fun c_53 => ?_) (fun c_53 => ?_)
      · refine ax_iload_n (i := 2) dX12_isClause_87 rfl rfl ?_
        refine ax_if_ne (tgt := 100) dX12_isClause_88 (by decide) (fun c_88 => ?_) (fun c_88 => ?_)
        · exact absurd (by decide) c_88
        · refine ax_aload_n (i := 0) dX12_isClause_91 rfl rfl ?_
          refine ax_ldcS (i := 0) (tx := "bright ") dX12_isClause_92 (by decide) ?_
          refine ax_cVq dX12_isClause_94 lk_X12_210 (m_all hZ hTG hT1 hT2 (i := 0) (by decide) wBr rfl hw_br hp ha) rfl (OKs hZ rfl) ⟨_, rfl, rfl⟩ rfl (Nat.le_of_ble_eq_true rfl) (Nat.le_of_ble_eq_true rfl) (Nat.le_of_ble_eq_true rfl) (Nat.le_of_ble_eq_true rfl) ?_
          rintro _ G1 _ ⟨rfl, rfl, p1⟩
          refine ax_goto (tgt := 133) dX12_isClause_97 (by decide) ?_
          refine ax_istore_n (i := 3) dX12_isClause_133 rfl (by decide) rfl ?_
          refine ax_iload_n (i := 3) dX12_isClause_134 rfl rfl ?_
          refine ax_if_eq (tgt := 145) dX12_isClause_135 (by decide) (fun c_135 => ?_) (fun c_135 => ?_)
          · refine ax_iconst (v := 0) dX12_isClause_145 (by decide) ?_
            refine ax_iret dX12_isClause_146 rfl rfl (Nat.le_of_ble_eq_true rfl) (Nat.le_of_ble_eq_true rfl) ?_
            have eb : chT T a = 98 := ec.trans ((nI_eq (by omega) (by decide)).mp (show nI (T.2 a) = nI 98 from c_24))
            have e8 : pCl T a = pCw T 0 (pAll T wBr a) := pCl_b eb
            have e9 : pCl T a = (false, (pAll T wBr a).2, c0) := by rw [e8, pCw_f (bI_f c_135)]
            rw [e9]
            exact ⟨rfl, rfl, rfl, fun z => Bool.noConfusion z, fun _ => SC_PSx hs ⟨_, _, p1⟩⟩
          · obtain ⟨q1, q2, q3⟩ := pAll_ok wBr a (by decide) ha
            have s1 := bI_t c_135
            refine ax_aload_n (i := 0) dX12_isClause_138 rfl rfl ?_
            refine ax_cVq dX12_isClause_139 lk_X12_184 (m_num hZ hTG hT1 hT2 p1 q2) rfl (OKs hZ rfl) ⟨_, rfl, rfl⟩ rfl (Nat.le_of_ble_eq_true rfl) (Nat.le_of_ble_eq_true rfl) (Nat.le_of_ble_eq_true rfl) (Nat.le_of_ble_eq_true rfl) ?_
            rintro _ G2 _ ⟨rfl, rfl, p2, v2⟩
            refine ax_if_ne (tgt := 147) dX12_isClause_142 (by decide) (fun c_142 => ?_) (fun c_142 => ?_)
            · have n0 : ¬ nmC T (pAll T wBr a).2 = 0 := by have := bI_y c_142; omega
              have hnl := nmC_le (T := T) q2
              have hs2 := SC_PS hs p2
              refine ax_aload_n (i := 0) dX12_isClause_147 rfl rfl ?_
              refine ax_getR dX12_isClause_148 fl_X12_45 rfl (OKs hZ rfl) (OKr hZ rfl) ?_
              refine ax_iload_n (i := 1) dX12_isClause_151 rfl rfl ?_
              refine ax_iload_n (i := 2) dX12_isClause_152 rfl rfl ?_
              refine ax_iastN (10 * h + cls.length) dX12_isClause_153 (OKs hZ rfl) rfl (show _ < 61 by omega) (by decide) ?_
              refine ax_aload_n (i := 0) dX12_isClause_154 rfl rfl ?_
              refine ax_getR dX12_isClause_155 fl_X12_48 rfl (OKs hZ rfl) (OKr hZ rfl) ?_
              refine ax_iload_n (i := 1) dX12_isClause_158 rfl rfl ?_
              refine ax_aload_n (i := 0) dX12_isClause_159 rfl rfl ?_
              refine ax_getI dX12_isClause_160 fl_X12_152 rfl (OKs hZ rfl) ?_
              refine ax_top (congrArg Value.int v2) ?_
              refine ax_iastN (10 * h + cls.length) dX12_isClause_163 (OKs hZ rfl) rfl (show _ < 61 by omega) (by decide) ?_
              refine ax_aload_n (i := 0) dX12_isClause_164 rfl rfl ?_
              refine ax_getR dX12_isClause_165 fl_X12_51 rfl (OKs hZ rfl) (OKr hZ rfl) ?_
              refine ax_iload_n (i := 1) dX12_isClause_168 rfl rfl ?_
              refine ax_aload_n (i := 0) dX12_isClause_169 rfl rfl ?_
              refine ax_getI dX12_isClause_170 fl_X12_174 rfl (OKs hZ rfl) ?_
              refine ax_top (congrArg Value.int (show _ = nI c from by rw [up2_k (by decide), up2_k (by decide)]; exact p2.2.2.1)) ?_
              refine ax_iastN (10 * h + cls.length) dX12_isClause_173 (OKs hZ rfl) rfl (show _ < 61 by omega) (by decide) ?_
              refine ax_aload_n (i := 0) dX12_isClause_174 rfl rfl ?_
              refine ax_iconst (v := 0) dX12_isClause_175 (by decide) ?_
              refine ax_putI dX12_isClause_176 fl_X12_190 (Or.inl fp_X12_12_16) rfl rfl rfl (OKs hZ rfl) ?_
              refine ax_gen (fun G => SD G0 G h b0 ((pAll T wBr a).2 + nmC T (pAll T wBr a).2) c cls 0 (nmV T (pAll T wBr a).2)) ⟨SC_op (SC_up (SC_up (SC_up hs2 (by decide)) (by decide)) (by decide)), by rw [up2_k (by decide), up2_k (by decide), up2_k (by decide), up2_s]; rfl, by rw [up2_k (by decide), up2_k (by decide), up2_s], by rw [up2_k (by decide), up2_s], by rw [up2_s]; rfl⟩ (fun G5 hd => ?_)
              refine ax_iload_n (i := 2) dX12_isClause_179 rfl rfl ?_
              refine ax_iconst (v := 2) dX12_isClause_180 (by decide) ?_
              refine ax_icmp_ge (tgt := 202) dX12_isClause_181 (by decide) (fun c_181 => ?_) (fun c_181 => ?_)
              · exact absurd c_181 (by decide)
              · have hT5 := SC_T hd.1 hT
                refine ax_aload_n (i := 0) dX12_isClause_184 rfl rfl ?_
                refine ax_bipush (v := 32) dX12_isClause_185 (by decide) ?_
                refine ax_cVq dX12_isClause_187 lk_X12_171 (m_is hZ hT5 hT1 hT2 (SC_self hd.1 hd.2.2.2.2) hnl 32 (by decide)) rfl (OKs hZ rfl) ⟨_, rfl, rfl⟩ rfl (Nat.le_of_ble_eq_true rfl) (Nat.le_of_ble_eq_true rfl) (Nat.le_of_ble_eq_true rfl) (Nat.le_of_ble_eq_true rfl) ?_
                rintro _ G3 _ ⟨rfl, rfl, p3⟩
                refine ax_if_eq (tgt := 200) dX12_isClause_190 (by decide) (fun c_190 => ?_) (fun c_190 => ?_)
                · refine ax_iconst (v := 0) dX12_isClause_200 (by decide) ?_
                  refine ax_iret dX12_isClause_201 rfl rfl (Nat.le_of_ble_eq_true rfl) (Nat.le_of_ble_eq_true rfl) ?_
                  have eb : chT T a = 98 := ec.trans ((nI_eq (by omega) (by decide)).mp (show nI (T.2 a) = nI 98 from c_24))
                  have e8 : pCl T a = pCw T 0 (pAll T wBr a) := pCl_b eb
                  have s1 := bI_t c_135
                  have n0 : ¬ nmC T (pAll T wBr a).2 = 0 := by have := bI_y c_142; omega
                  have e7 : pCl T a = pCe T 0 (nmV T (pAll T wBr a).2) ((pAll T wBr a).2 + nmC T (pAll T wBr a).2) := by rw [e8, pCw_e (by decide) s1 n0]
                  have cb := bI_n c_190
                  have e9 : pCl T a = (false, ((pAll T wBr a).2 + nmC T (pAll T wBr a).2), c0) := by rw [e7]; unfold pCe; rw [if_neg cb]
                  rw [if_neg cb] at p3
                  rw [e9]
                  exact ⟨rfl, rfl, rfl, fun z => Bool.noConfusion z, fun _ => SC_PSx hd.1 ⟨_, _, p3⟩⟩
                · have cb := bI_y c_190
                  rw [if_pos cb] at p3
                  have hl3 := chT_lt cb (by decide)
                  refine ax_aload_n (i := 0) dX12_isClause_193 rfl rfl ?_
                  refine ax_cVq dX12_isClause_194 lk_X12_199 (m_isE4 hZ hT5 hT1 hT2 (by omega) _ (((pAll T wBr a).2 + nmC T (pAll T wBr a).2) + 1) [] p3 hl3 (Nat.zero_le _)) rfl (OKs hZ rfl) ⟨_, rfl, rfl⟩ rfl (Nat.le_of_ble_eq_true rfl) (Nat.le_of_ble_eq_true rfl) (Nat.le_of_ble_eq_true rfl) (Nat.le_of_ble_eq_true rfl) ?_
                  rintro _ G4 _ ⟨rfl, rfl, pt4, pf4⟩
                  refine ax_if_ne (tgt := 202) dX12_isClause_197 (by decide) (fun c_197 => ?_) (fun c_197 => ?_)
                  · have cf := bI_t c_197
                    have pt4 := pt4 cf
                    rw [List.nil_append] at pt4
                    obtain ⟨f1, f2⟩ := pE_ok (pF_ok T 4) 101 (((pAll T wBr a).2 + nmC T (pAll T wBr a).2) + 1) hl3
                    obtain ⟨f3, f4⟩ := f2 cf
                    refine ax_aload_n (i := 0) dX12_isClause_202 rfl rfl ?_
                    refine ax_getR dX12_isClause_203 fl_X12_54 rfl (OKs hZ rfl) (OKr hZ rfl) ?_
                    refine ax_iload_n (i := 1) dX12_isClause_206 rfl rfl ?_
                    refine ax_aload_n (i := 0) dX12_isClause_207 rfl rfl ?_
                    refine ax_getI dX12_isClause_208 fl_X12_174 rfl (OKs hZ rfl) ?_
                    refine ax_top (congrArg Value.int pt4.2.2.1) ?_
                    refine ax_aload_n (i := 0) dX12_isClause_211 rfl rfl ?_
                    refine ax_getR dX12_isClause_212 fl_X12_51 rfl (OKs hZ rfl) (OKr hZ rfl) ?_
                    refine ax_iload_n (i := 1) dX12_isClause_215 rfl rfl ?_
                    refine ax_ialdN (10 * h + cls.length) dX12_isClause_216 (OKs hZ rfl) rfl (show _ < 61 by omega) (by decide) ?_
                    refine ax_top (congrArg Value.int ((congrFun (pt4.2.2.2.2.1 89 (by decide) (by decide)) _).trans hd.2.2.2.1)) ?_
                    refine ax_isub dX12_isClause_217 ?_
                    refine ax_top (congrArg Value.int (add_sub9 c _)) ?_
                    refine ax_iastN (10 * h + cls.length) dX12_isClause_218 (OKs hZ rfl) rfl (show _ < 61 by omega) (by decide) ?_
                    refine ax_iconst (v := 1) dX12_isClause_219 (by decide) ?_
                    refine ax_iret dX12_isClause_220 rfl rfl (Nat.le_of_ble_eq_true rfl) (Nat.le_of_ble_eq_true rfl) ?_
                    have eb : chT T a = 98 := ec.trans ((nI_eq (by omega) (by decide)).mp (show nI (T.2 a) = nI 98 from c_24))
                    have e8 : pCl T a = pCw T 0 (pAll T wBr a) := pCl_b eb
                    have s1 := bI_t c_135
                    have n0 : ¬ nmC T (pAll T wBr a).2 = 0 := by have := bI_y c_142; omega
                    have e7 : pCl T a = pCe T 0 (nmV T (pAll T wBr a).2) ((pAll T wBr a).2 + nmC T (pAll T wBr a).2) := by rw [e8, pCw_e (by decide) s1 n0]
                    have cb := bI_y c_190
                    have e9 : pCl T a = (true, (pE (pF T 4) T 101 (((pAll T wBr a).2 + nmC T (pAll T wBr a).2) + 1)).2.1, (0, nmV T (pAll T wBr a).2, (pE (pF T 4) T 101 (((pAll T wBr a).2 + nmC T (pAll T wBr a).2) + 1)).2.2)) := by rw [e7]; unfold pCe; rw [if_pos cb, if_pos cf]
                    rw [e9]
                    exact ⟨rfl, rfl, rfl, fun _ => ⟨c + (pE (pF T 4) T 101 (((pAll T wBr a).2 + nmC T (pAll T wBr a).2) + 1)).2.2.length, SD_end hd pt4 rfl, Nat.le_add_right _ _, by show c + (pE (pF T 4) T 101 (((pAll T wBr a).2 + nmC T (pAll T wBr a).2) + 1)).2.2.length ≤ b0 + (pE (pF T 4) T 101 (((pAll T wBr a).2 + nmC T (pAll T wBr a).2) + 1)).2.1; omega⟩, fun z => Bool.noConfusion z⟩
                  · refine ax_iconst (v := 0) dX12_isClause_200 (by decide) ?_
                    refine ax_iret dX12_isClause_201 rfl rfl (Nat.le_of_ble_eq_true rfl) (Nat.le_of_ble_eq_true rfl) ?_
                    have eb : chT T a = 98 := ec.trans ((nI_eq (by omega) (by decide)).mp (show nI (T.2 a) = nI 98 from c_24))
                    have e8 : pCl T a = pCw T 0 (pAll T wBr a) := pCl_b eb
                    have s1 := bI_t c_135
                    have n0 : ¬ nmC T (pAll T wBr a).2 = 0 := by have := bI_y c_142; omega
                    have e7 : pCl T a = pCe T 0 (nmV T (pAll T wBr a).2) ((pAll T wBr a).2 + nmC T (pAll T wBr a).2) := by rw [e8, pCw_e (by decide) s1 n0]
                    have cb := bI_y c_190
                    have e9 : pCl T a = (false, (pE (pF T 4) T 101 (((pAll T wBr a).2 + nmC T (pAll T wBr a).2) + 1)).2.1, c0) := by rw [e7]; unfold pCe; rw [if_pos cb, if_neg (by rw [bI_f c_197]; decide)]
                    rw [e9]
                    exact ⟨rfl, rfl, rfl, fun z => Bool.noConfusion z, fun _ => SC_PSx hd.1 (pf4 (bI_f c_197))⟩
            · refine ax_iconst (v := 0) dX12_isClause_145 (by decide) ?_
              refine ax_iret dX12_isClause_146 rfl rfl (Nat.le_of_ble_eq_true rfl) (Nat.le_of_ble_eq_true rfl) ?_
              have eb : chT T a = 98 := ec.trans ((nI_eq (by omega) (by decide)).mp (show nI (T.2 a) = nI 98 from c_24))
              have e8 : pCl T a = pCw T 0 (pAll T wBr a) := pCl_b eb
              have s1 := bI_t c_135
              have n0 : nmC T (pAll T wBr a).2 = 0 := by have := bI_n c_142; omega
              have e9 : pCl T a = (false, (pAll T wBr a).2, c0) := by rw [e8, pCw_0 s1 n0]
              rw [n0] at p2
              rw [e9]
              exact ⟨rfl, rfl, rfl, fun z => Bool.noConfusion z, fun _ => SC_PSx hs ⟨_, _, p2⟩⟩
      · exact absurd c_53 (by decide)
