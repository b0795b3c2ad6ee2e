-- ===== contracts: a show at work =====
/-- what a letter of a show says of a rocket -/
def opF (l num : Int32) (row : Nat → Int32) (mi : Int32) : Int32 := if l = 112 then num else if l = 107 then row 0 else if l = 118 then row 1 else if l = 115 then row 2 else if l = 119 then row 4 / 10 else mi - mi / 10 * 10
def ltOK (l : Int32) : Prop := l = 112 ∨ l = 107 ∨ l = 118 ∨ l = 115 ∨ l = 119 ∨ l = 109
def cmpF (s a b : Int32) : Int32 := if s = 1 then bi (a = b) else if s = 0 then bi (a < b) else bi (b < a)
theorem c_X6_operand {Z : Zt} {G : Gt} {L : Lt} {rp : Nat} (hrp : Z.2.1 rp = some (.inr (.int, 10))) (l num mi : Int32) (hl : ltOK l) : AC mX6_operand 1 0 0 [.int l, .int num, .ref rp, .int mi] Z G L (RQ (.int (opF l num (G rp) mi)) Z G L) := by
  refine AC.intro (by decide +kernel) (Nat.le_of_ble_eq_true rfl) ?_
  refine ax_lv [(0, .int l), (1, .int num), (2, .ref rp), (3, .int mi)] ⟨rfl, rfl, rfl, rfl, trivial⟩ ?_
  rcases hl with rfl | rfl | rfl | rfl | rfl | rfl
  · refine ax_iload_n (i := 0) dX6_operand_0 rfl rfl ?_
    refine ax_tin (off := 67) (tgt := 68) dX6_operand_1 (by decide) (by decide) (by decide) (by decide) ?_
    refine ax_iload_n (i := 1) dX6_operand_68 rfl rfl ?_
    refine ax_iret dX6_operand_69 rfl rfl (Nat.le_of_ble_eq_true rfl) (Nat.le_of_ble_eq_true rfl) ?_
    exact rq rfl
  · refine ax_iload_n (i := 0) dX6_operand_0 rfl rfl ?_
    refine ax_tin (off := 69) (tgt := 70) dX6_operand_1 (by decide) (by decide) (by decide) (by decide) ?_
    refine ax_aload_n (i := 2) dX6_operand_70 rfl rfl ?_
    refine ax_iconst (v := 0) dX6_operand_71 (by decide) ?_
    refine ax_ialdN 0 dX6_operand_72 hrp rfl (by decide) (by decide) ?_
    refine ax_iret dX6_operand_73 rfl rfl (Nat.le_of_ble_eq_true rfl) (Nat.le_of_ble_eq_true rfl) ?_
    exact rq rfl
  · refine ax_iload_n (i := 0) dX6_operand_0 rfl rfl ?_
    refine ax_tin (off := 73) (tgt := 74) dX6_operand_1 (by decide) (by decide) (by decide) (by decide) ?_
    refine ax_aload_n (i := 2) dX6_operand_74 rfl rfl ?_
    refine ax_iconst (v := 1) dX6_operand_75 (by decide) ?_
    refine ax_ialdN 1 dX6_operand_76 hrp rfl (by decide) (by decide) ?_
    refine ax_iret dX6_operand_77 rfl rfl (Nat.le_of_ble_eq_true rfl) (Nat.le_of_ble_eq_true rfl) ?_
    exact rq rfl
  · refine ax_iload_n (i := 0) dX6_operand_0 rfl rfl ?_
    refine ax_tin (off := 77) (tgt := 78) dX6_operand_1 (by decide) (by decide) (by decide) (by decide) ?_
    refine ax_aload_n (i := 2) dX6_operand_78 rfl rfl ?_
    refine ax_iconst (v := 2) dX6_operand_79 (by decide) ?_
    refine ax_ialdN 2 dX6_operand_80 hrp rfl (by decide) (by decide) ?_
    refine ax_iret dX6_operand_81 rfl rfl (Nat.le_of_ble_eq_true rfl) (Nat.le_of_ble_eq_true rfl) ?_
    exact rq rfl
  · refine ax_iload_n (i := 0) dX6_operand_0 rfl rfl ?_
    refine ax_tin (off := 81) (tgt := 82) dX6_operand_1 (by decide) (by decide) (by decide) (by decide) ?_
    refine ax_aload_n (i := 2) dX6_operand_82 rfl rfl ?_
    refine ax_iconst (v := 4) dX6_operand_83 (by decide) ?_
    refine ax_ialdN 4 dX6_operand_84 hrp rfl (by decide) (by decide) ?_
    refine ax_bipush (v := 10) dX6_operand_85 (by decide) ?_
    refine ax_idiv dX6_operand_87 (by decide) ?_
    refine ax_iret dX6_operand_88 rfl rfl (Nat.le_of_ble_eq_true rfl) (Nat.le_of_ble_eq_true rfl) ?_
    exact rq rfl
  · refine ax_iload_n (i := 0) dX6_operand_0 rfl rfl ?_
    refine ax_tin (off := 88) (tgt := 89) dX6_operand_1 (by decide) (by decide) (by decide) (by decide) ?_
    refine ax_iload_n (i := 3) dX6_operand_89 rfl rfl ?_
    refine ax_bipush (v := 10) dX6_operand_90 (by decide) ?_
    refine ax_irem dX6_operand_92 (by decide) ?_
    refine ax_iret dX6_operand_93 rfl rfl (Nat.le_of_ble_eq_true rfl) (Nat.le_of_ble_eq_true rfl) ?_
    exact rq rfl
theorem c_X6_compares {Z : Zt} {G : Gt} {L : Lt} (s a b : Int32) : AC mX6_compares 1 0 0 [.int s, .int a, .int b] Z G L (RQ (.int (cmpF s a b)) Z G L) := by
  refine AC.intro (by decide +kernel) (Nat.le_of_ble_eq_true rfl) ?_
  refine ax_lv [(0, .int s), (1, .int a), (2, .int b)] ⟨rfl, rfl, rfl, trivial⟩ ?_
  refine ax_iload_n (i := 0) dX6_compares_0 rfl rfl ?_
  refine ax_iconst (v := 1) dX6_compares_1 (by decide) ?_
  refine ax_icmp_ne (tgt := 16) dX6_compares_2 (by decide) (fun c_2 => ?_) (fun c_2 => ?_)
  · refine ax_iload_n (i := 0) dX6_compares_16 rfl rfl ?_
    refine ax_if_ne (tgt := 33) dX6_compares_17 (by decide) (fun c_17 => ?_) (fun c_17 => ?_)
    · refine ax_iload_n (i := 1) dX6_compares_33 rfl rfl ?_
      refine ax_iload_n (i := 2) dX6_compares_34 rfl rfl ?_
      refine ax_icmp_le (tgt := 42) dX6_compares_35 (by decide) (fun c_35 => ?_) (fun c_35 => ?_)
      · refine ax_iconst (v := 0) dX6_compares_42 (by decide) ?_
        refine ax_iret dX6_compares_43 rfl rfl (Nat.le_of_ble_eq_true rfl) (Nat.le_of_ble_eq_true rfl) ?_
        exact rq (by unfold cmpF; simp [bi, *])
      · refine ax_iconst (v := 1) dX6_compares_38 (by decide) ?_
        refine ax_goto (tgt := 43) dX6_compares_39 (by decide) ?_
        refine ax_iret dX6_compares_43 rfl rfl (Nat.le_of_ble_eq_true rfl) (Nat.le_of_ble_eq_true rfl) ?_
        exact rq (by unfold cmpF; simp [bi, *])
    · refine ax_iload_n (i := 1) dX6_compares_20 rfl rfl ?_
      refine ax_iload_n (i := 2) dX6_compares_21 rfl rfl ?_
      refine ax_icmp_ge (tgt := 29) dX6_compares_22 (by decide) (fun c_22 => ?_) (fun c_22 => ?_)
      · refine ax_iconst (v := 0) dX6_compares_29 (by decide) ?_
        refine ax_goto (tgt := 43) dX6_compares_30 (by decide) ?_
        refine ax_iret dX6_compares_43 rfl rfl (Nat.le_of_ble_eq_true rfl) (Nat.le_of_ble_eq_true rfl) ?_
        exact rq (by unfold cmpF; simp [bi, *])
      · refine ax_iconst (v := 1) dX6_compares_25 (by decide) ?_
        refine ax_goto (tgt := 43) dX6_compares_26 (by decide) ?_
        refine ax_iret dX6_compares_43 rfl rfl (Nat.le_of_ble_eq_true rfl) (Nat.le_of_ble_eq_true rfl) ?_
        exact rq (by unfold cmpF; simp [bi, *])
  · refine ax_iload_n (i := 1) dX6_compares_5 rfl rfl ?_
    refine ax_iload_n (i := 2) dX6_compares_6 rfl rfl ?_
    refine ax_icmp_ne (tgt := 14) dX6_compares_7 (by decide) (fun c_7 => ?_) (fun c_7 => ?_)
    · refine ax_iconst (v := 0) dX6_compares_14 (by decide) ?_
      refine ax_iret dX6_compares_15 rfl rfl (Nat.le_of_ble_eq_true rfl) (Nat.le_of_ble_eq_true rfl) ?_
      exact rq (by unfold cmpF; simp [bi, *])
    · refine ax_iconst (v := 1) dX6_compares_10 (by decide) ?_
      refine ax_goto (tgt := 15) dX6_compares_11 (by decide) ?_
      refine ax_iret dX6_compares_15 rfl rfl (Nat.le_of_ble_eq_true rfl) (Nat.le_of_ble_eq_true rfl) ?_
      exact rq (by unfold cmpF; simp [bi, *])
/-- one step of a show: the sum, and what holds as bits -/
def bstep (S : Nat → Int32) (num : Int32) (row : Nat → Int32) (mi : Int32) (j : Nat) (x : Int32 × Int32) : Int32 × Int32 :=
  if S (3 * j) = 3 then (x.1, x.2 ^^^ 1)
  else if S (3 * j) = 4 then (x.1, (x.2 >>> ((1 : Int32) &&& 31)) &&& ((x.2 &&& 1) ||| (-2)))
  else if S (3 * j) = 5 then (x.1, (x.2 >>> ((1 : Int32) &&& 31)) ||| (x.2 &&& 1))
  else if S (3 * j) = 6 then (x.1 + (x.2 &&& 1) * S (3 * j + 1), x.2 >>> ((1 : Int32) &&& 31))
  else if S (3 * j) = 7 then (x.1 + (x.2 &&& 1) * (-S (3 * j + 1)), x.2 >>> ((1 : Int32) &&& 31))
  else (x.1, (x.2 <<< ((1 : Int32) &&& 31)) ||| bi (¬ cmpF (S (3 * j)) (opF (S (3 * j + 1)) num row mi) (S (3 * j + 2)) = 0))
def brR (S : Nat → Int32) (num : Int32) (row : Nat → Int32) (mi : Int32) : Nat → Int32 × Int32
  | 0 => (0, 0)
  | j + 1 => bstep S num row mi j (brR S num row mi j)
def stOK (S : Nat → Int32) (m : Nat) : Prop := ∀ j, j < m → (S (3 * j) = 3 ∨ S (3 * j) = 4 ∨ S (3 * j) = 5 ∨ S (3 * j) = 6 ∨ S (3 * j) = 7) ∨ ltOK (S (3 * j + 1))
theorem l_X6_brightens {Z : Zt} {G : Gt} {L : Lt} {Q : Qt} {sk sp rp : Nat} {m : Nat} (hsk : Z.2.1 sk = some (.inl 6)) (hsr : Z.2.2 sk 0 = some sp) (hsp : Z.2.1 sp = some (.inr (.int, 3 * m))) (hm1 : m ≤ 100) (hrp : Z.2.1 rp = some (.inr (.int, 10))) (hst : stOK (G sp) m) (num mi : Int32) (hend : AX none mX6_brightens 2 0 0 0 0 204 [(4, .int (brR (G sp) num (G rp) mi m).1)] [] Z G L Q) : ∀ (n q : Nat), q ≤ m → m - q < n → AX none mX6_brightens 2 0 0 0 0 9 [(0, .ref sk), (1, .int num), (2, .ref rp), (3, .int mi), (4, .int (brR (G sp) num (G rp) mi q).1), (5, .int (brR (G sp) num (G rp) mi q).2), (6, .int (nI (3 * q)))] [] Z G L Q := by
  intro n
  induction n with
  | zero => intro q h1 h2; omega
  | succ n ih =>
    intro q h1 h2
    refine ax_iload dX6_brightens_9 rfl ?_
    refine ax_iconst (v := 3) dX6_brightens_11 (by decide) ?_
    refine ax_iadd dX6_brightens_12 ?_
    refine ax_aload_n (i := 0) dX6_brightens_13 rfl rfl ?_
    refine ax_getR dX6_brightens_14 fl_X6_9 rfl hsk hsr ?_
    refine ax_alen (t0 := 0) (v := (nI (3 * m))) dX6_brightens_17 hsp (fun _ => rfl) rfl ?_
    refine ax_icmp_gt (tgt := 204) dX6_brightens_18 (by decide) (fun c_18 => ?_) (fun c_18 => ?_)
    · obtain rfl : q = m := by have := (nI_ltI (by omega) (by omega)).mp (show nI (3 * m) < nI (3 * q + 3) from by rw [← nI_add (3 * q) 3]; exact c_18); omega
      exact ax_lv [(4, .int (brR (G sp) num (G rp) mi q).1)] ⟨rfl, trivial⟩ hend
    · have hqm : q < m := by have := mt (nI_ltI (by omega) (by omega)).mpr (show ¬ nI (3 * m) < nI (3 * q + 3) from by rw [← nI_add (3 * q) 3]; exact c_18); omega
      refine ax_aload_n (i := 0) dX6_brightens_21 rfl rfl ?_
      refine ax_getR dX6_brightens_22 fl_X6_9 rfl hsk hsr ?_
      refine ax_iload dX6_brightens_25 rfl ?_
      refine ax_ialdN (3 * q) dX6_brightens_27 hsp rfl (by omega) (by omega) ?_
      refine ax_istore dX6_brightens_28 (by decide) rfl ?_
      refine ax_iload dX6_brightens_30 rfl ?_
      refine ax_iconst (v := 1) dX6_brightens_32 (by decide) ?_
      refine ax_iand dX6_brightens_33 ?_
      refine ax_istore dX6_brightens_34 (by decide) rfl ?_
      refine ax_iload dX6_brightens_36 rfl ?_
      refine ax_iconst (v := 3) dX6_brightens_38 (by decide) ?_
      refine ax_icmp_ne (tgt := 51) dX6_brightens_39 (by decide) (fun c_39 => ?_) (fun c_39 => ?_)
      · refine ax_iload dX6_brightens_51 rfl ?_
        refine ax_iconst (v := 4) dX6_brightens_53 (by decide) ?_
        refine ax_icmp_ne (tgt := 72) dX6_brightens_54 (by decide) (fun c_54 => ?_) (fun c_54 => ?_)
        · refine ax_iload dX6_brightens_72 rfl ?_
          refine ax_iconst (v := 5) dX6_brightens_74 (by decide) ?_
          refine ax_icmp_ne (tgt := 90) dX6_brightens_75 (by decide) (fun c_75 => ?_) (fun c_75 => ?_)
          · refine ax_iload dX6_brightens_90 rfl ?_
            refine ax_bipush (v := 6) dX6_brightens_92 (by decide) ?_
            refine ax_icmp_eq (tgt := 104) dX6_brightens_94 (by decide) (fun c_94 => ?_) (fun c_94 => ?_)
            · refine ax_iload dX6_brightens_104 rfl ?_
              refine ax_iload dX6_brightens_106 rfl ?_
              refine ax_iload dX6_brightens_108 rfl ?_
              refine ax_bipush (v := 6) dX6_brightens_110 (by decide) ?_
              refine ax_icmp_ne (tgt := 127) dX6_brightens_112 (by decide) (fun c_112 => ?_) (fun c_112 => ?_)
              · exact absurd c_94 c_112
              · refine ax_aload_n (i := 0) dX6_brightens_115 rfl rfl ?_
                refine ax_getR dX6_brightens_116 fl_X6_9 rfl hsk hsr ?_
                refine ax_iload dX6_brightens_119 rfl ?_
                refine ax_iconst (v := 1) dX6_brightens_121 (by decide) ?_
                refine ax_iadd dX6_brightens_122 ?_
                refine ax_ialdN (3 * q + 1) dX6_brightens_123 hsp (nI_1 (3 * q)) (by omega) (by omega) ?_
                refine ax_goto (tgt := 137) dX6_brightens_124 (by decide) ?_
                refine ax_imul dX6_brightens_137 ?_
                refine ax_iadd dX6_brightens_138 ?_
                refine ax_istore dX6_brightens_139 (by decide) rfl ?_
                refine ax_iload dX6_brightens_141 rfl ?_
                refine ax_iconst (v := 1) dX6_brightens_143 (by decide) ?_
                refine ax_ishr dX6_brightens_144 ?_
                refine ax_istore dX6_brightens_145 (by decide) rfl ?_
                refine ax_goto (tgt := 198) dX6_brightens_147 (by decide) ?_
                refine ax_iinc (v := (nI (3 * q)) + 3) dX6_brightens_198 rfl rfl (by decide) rfl ?_
                refine ax_goto (tgt := 9) dX6_brightens_201 (by decide) ?_
                refine ax_lv [(0, .ref sk), (1, .int num), (2, .ref rp), (3, .int mi), (4, .int (brR (G sp) num (G rp) mi (q + 1)).1), (5, .int (brR (G sp) num (G rp) mi (q + 1)).2), (6, .int (nI (3 * (q + 1))))] ⟨rfl, rfl, rfl, rfl, sI (by simp [brR, bstep, bi, *]), sI (by simp [brR, bstep, bi, *]), sI (by rw [show nI (3 * q) + 3 = nI (3 * q) + nI 3 from rfl, nI_add]; rfl), trivial⟩ ?_
                exact ih (q + 1) (by omega) (by omega)
            · refine ax_iload dX6_brightens_97 rfl ?_
              refine ax_bipush (v := 7) dX6_brightens_99 (by decide) ?_
              refine ax_icmp_ne (tgt := 150) dX6_brightens_101 (by decide) (fun c_101 => ?_) (fun c_101 => ?_)
              · refine ax_aload_n (i := 0) dX6_brightens_150 rfl rfl ?_
                refine ax_getR dX6_brightens_151 fl_X6_9 rfl hsk hsr ?_
                refine ax_iload dX6_brightens_154 rfl ?_
                refine ax_iconst (v := 1) dX6_brightens_156 (by decide) ?_
                refine ax_iadd dX6_brightens_157 ?_
                refine ax_ialdN (3 * q + 1) dX6_brightens_158 hsp (nI_1 (3 * q)) (by omega) (by omega) ?_
                refine ax_iload_n (i := 1) dX6_brightens_159 rfl rfl ?_
                refine ax_aload_n (i := 2) dX6_brightens_160 rfl rfl ?_
                refine ax_iload_n (i := 3) dX6_brightens_161 rfl rfl ?_
                refine ax_cSv dX6_brightens_162 lk_X6_19 (c_X6_operand hrp (G sp (3 * q + 1)) num mi (((hst q hqm).resolve_left (by rintro (h | h | h | h | h) <;> contradiction)))) rfl rfl (Nat.le_of_ble_eq_true rfl) (Nat.le_of_ble_eq_true rfl) (Nat.le_of_ble_eq_true rfl) (Nat.le_of_ble_eq_true rfl) ?_
                refine ax_istore dX6_brightens_165 (by decide) rfl ?_
                refine ax_iload dX6_brightens_167 rfl ?_
                refine ax_iconst (v := 1) dX6_brightens_169 (by decide) ?_
                refine ax_ishl dX6_brightens_170 ?_
                refine ax_iload dX6_brightens_171 rfl ?_
                refine ax_iload dX6_brightens_173 rfl ?_
                refine ax_aload_n (i := 0) dX6_brightens_175 rfl rfl ?_
                refine ax_getR dX6_brightens_176 fl_X6_9 rfl hsk hsr ?_
                refine ax_iload dX6_brightens_179 rfl ?_
                refine ax_iconst (v := 2) dX6_brightens_181 (by decide) ?_
                refine ax_iadd dX6_brightens_182 ?_
                refine ax_ialdN (3 * q + 2) dX6_brightens_183 hsp (nI_add (3 * q) 2) (by omega) (by omega) ?_
                refine ax_cSv dX6_brightens_184 lk_X6_23 (c_X6_compares (G sp (3 * q)) (opF (G sp (3 * q + 1)) num (G rp) mi) (G sp (3 * q + 2))) rfl rfl (Nat.le_of_ble_eq_true rfl) (Nat.le_of_ble_eq_true rfl) (Nat.le_of_ble_eq_true rfl) (Nat.le_of_ble_eq_true rfl) ?_
                refine ax_if_eq (tgt := 194) dX6_brightens_187 (by decide) (fun c_187 => ?_) (fun c_187 => ?_)
                · refine ax_iconst (v := 0) dX6_brightens_194 (by decide) ?_
                  refine ax_ior dX6_brightens_195 ?_
                  refine ax_istore dX6_brightens_196 (by decide) rfl ?_
                  refine ax_iinc (v := (nI (3 * q)) + 3) dX6_brightens_198 rfl rfl (by decide) rfl ?_
                  refine ax_goto (tgt := 9) dX6_brightens_201 (by decide) ?_
                  refine ax_lv [(0, .ref sk), (1, .int num), (2, .ref rp), (3, .int mi), (4, .int (brR (G sp) num (G rp) mi (q + 1)).1), (5, .int (brR (G sp) num (G rp) mi (q + 1)).2), (6, .int (nI (3 * (q + 1))))] ⟨rfl, rfl, rfl, rfl, sI (by simp [brR, bstep, bi, *]), sI (by simp [brR, bstep, bi, *]), sI (by rw [show nI (3 * q) + 3 = nI (3 * q) + nI 3 from rfl, nI_add]; rfl), trivial⟩ ?_
                  exact ih (q + 1) (by omega) (by omega)
                · refine ax_iconst (v := 1) dX6_brightens_190 (by decide) ?_
                  refine ax_goto (tgt := 195) dX6_brightens_191 (by decide) ?_
                  refine ax_ior dX6_brightens_195 ?_
                  refine ax_istore dX6_brightens_196 (by decide) rfl ?_
                  refine ax_iinc (v := (nI (3 * q)) + 3) dX6_brightens_198 rfl rfl (by decide) rfl ?_
                  refine ax_goto (tgt := 9) dX6_brightens_201 (by decide) ?_
                  refine ax_lv [(0, .ref sk), (1, .int num), (2, .ref rp), (3, .int mi), (4, .int (brR (G sp) num (G rp) mi (q + 1)).1), (5, .int (brR (G sp) num (G rp) mi (q + 1)).2), (6, .int (nI (3 * (q + 1))))] ⟨rfl, rfl, rfl, rfl, sI (by simp [brR, bstep, bi, *]), sI (by simp [brR, bstep, bi, *]), sI (by rw [show nI (3 * q) + 3 = nI (3 * q) + nI 3 from rfl, nI_add]; rfl), trivial⟩ ?_
                  exact ih (q + 1) (by omega) (by omega)
              · refine ax_iload dX6_brightens_104 rfl ?_
                refine ax_iload dX6_brightens_106 rfl ?_
                refine ax_iload dX6_brightens_108 rfl ?_
                refine ax_bipush (v := 6) dX6_brightens_110 (by decide) ?_
                refine ax_icmp_ne (tgt := 127) dX6_brightens_112 (by decide) (fun c_112 => ?_) (fun c_112 => ?_)
                · refine ax_aload_n (i := 0) dX6_brightens_127 rfl rfl ?_
                  refine ax_getR dX6_brightens_128 fl_X6_9 rfl hsk hsr ?_
                  refine ax_iload dX6_brightens_131 rfl ?_
                  refine ax_iconst (v := 1) dX6_brightens_133 (by decide) ?_
                  refine ax_iadd dX6_brightens_134 ?_
                  refine ax_ialdN (3 * q + 1) dX6_brightens_135 hsp (nI_1 (3 * q)) (by omega) (by omega) ?_
                  refine ax_ineg dX6_brightens_136 ?_
                  refine ax_imul dX6_brightens_137 ?_
                  refine ax_iadd dX6_brightens_138 ?_
                  refine ax_istore dX6_brightens_139 (by decide) rfl ?_
                  refine ax_iload dX6_brightens_141 rfl ?_
                  refine ax_iconst (v := 1) dX6_brightens_143 (by decide) ?_
                  refine ax_ishr dX6_brightens_144 ?_
                  refine ax_istore dX6_brightens_145 (by decide) rfl ?_
                  refine ax_goto (tgt := 198) dX6_brightens_147 (by decide) ?_
                  refine ax_iinc (v := (nI (3 * q)) + 3) dX6_brightens_198 rfl rfl (by decide) rfl ?_
                  refine ax_goto (tgt := 9) dX6_brightens_201 (by decide) ?_
                  refine ax_lv [(0, .ref sk), (1, .int num), (2, .ref rp), (3, .int mi), (4, .int (brR (G sp) num (G rp) mi (q + 1)).1), (5, .int (brR (G sp) num (G rp) mi (q + 1)).2), (6, .int (nI (3 * (q + 1))))] ⟨rfl, rfl, rfl, rfl, sI (by simp [brR, bstep, bi, *]), sI (by simp [brR, bstep, bi, *]), sI (by rw [show nI (3 * q) + 3 = nI (3 * q) + nI 3 from rfl, nI_add]; rfl), trivial⟩ ?_
                  exact ih (q + 1) (by omega) (by omega)
                · exact absurd c_112 c_94
          · refine ax_iload dX6_brightens_78 rfl ?_
            refine ax_iconst (v := 1) dX6_brightens_80 (by decide) ?_
            refine ax_ishr dX6_brightens_81 ?_
            refine ax_iload dX6_brightens_82 rfl ?_
            refine ax_ior dX6_brightens_84 ?_
            refine ax_istore dX6_brightens_85 (by decide) rfl ?_
            refine ax_goto (tgt := 198) dX6_brightens_87 (by decide) ?_
            refine ax_iinc (v := (nI (3 * q)) + 3) dX6_brightens_198 rfl rfl (by decide) rfl ?_
            refine ax_goto (tgt := 9) dX6_brightens_201 (by decide) ?_
            refine ax_lv [(0, .ref sk), (1, .int num), (2, .ref rp), (3, .int mi), (4, .int (brR (G sp) num (G rp) mi (q + 1)).1), (5, .int (brR (G sp) num (G rp) mi (q + 1)).2), (6, .int (nI (3 * (q + 1))))] ⟨rfl, rfl, rfl, rfl, sI (by simp [brR, bstep, bi, *]), sI (by simp [brR, bstep, bi, *]), sI (by rw [show nI (3 * q) + 3 = nI (3 * q) + nI 3 from rfl, nI_add]; rfl), trivial⟩ ?_
            exact ih (q + 1) (by omega) (by omega)
        · refine ax_iload dX6_brightens_57 rfl ?_
          refine ax_iconst (v := 1) dX6_brightens_59 (by decide) ?_
          refine ax_ishr dX6_brightens_60 ?_
          refine ax_iload dX6_brightens_61 rfl ?_
          refine ax_bipush (v := (-2)) dX6_brightens_63 (by decide) ?_
          refine ax_ior dX6_brightens_65 ?_
          refine ax_iand dX6_brightens_66 ?_
          refine ax_istore dX6_brightens_67 (by decide) rfl ?_
          refine ax_goto (tgt := 198) dX6_brightens_69 (by decide) ?_
          refine ax_iinc (v := (nI (3 * q)) + 3) dX6_brightens_198 rfl rfl (by decide) rfl ?_
          refine ax_goto (tgt := 9) dX6_brightens_201 (by decide) ?_
          refine ax_lv [(0, .ref sk), (1, .int num), (2, .ref rp), (3, .int mi), (4, .int (brR (G sp) num (G rp) mi (q + 1)).1), (5, .int (brR (G sp) num (G rp) mi (q + 1)).2), (6, .int (nI (3 * (q + 1))))] ⟨rfl, rfl, rfl, rfl, sI (by simp [brR, bstep, bi, *]), sI (by simp [brR, bstep, bi, *]), sI (by rw [show nI (3 * q) + 3 = nI (3 * q) + nI 3 from rfl, nI_add]; rfl), trivial⟩ ?_
          exact ih (q + 1) (by omega) (by omega)
      · refine ax_iload dX6_brightens_42 rfl ?_
        refine ax_iconst (v := 1) dX6_brightens_44 (by decide) ?_
        refine ax_ixor dX6_brightens_45 ?_
        refine ax_istore dX6_brightens_46 (by decide) rfl ?_
        refine ax_goto (tgt := 198) dX6_brightens_48 (by decide) ?_
        refine ax_iinc (v := (nI (3 * q)) + 3) dX6_brightens_198 rfl rfl (by decide) rfl ?_
        refine ax_goto (tgt := 9) dX6_brightens_201 (by decide) ?_
        refine ax_lv [(0, .ref sk), (1, .int num), (2, .ref rp), (3, .int mi), (4, .int (brR (G sp) num (G rp) mi (q + 1)).1), (5, .int (brR (G sp) num (G rp) mi (q + 1)).2), (6, .int (nI (3 * (q + 1))))] ⟨rfl, rfl, rfl, rfl, sI (by simp [brR, bstep, bi, *]), sI (by simp [brR, bstep, bi, *]), sI (by rw [show nI (3 * q) + 3 = nI (3 * q) + nI 3 from rfl, nI_add]; rfl), trivial⟩ ?_
        exact ih (q + 1) (by omega) (by omega)
theorem c_X6_brightens {Z : Zt} {G : Gt} {L : Lt} {sk sp rp : Nat} {m : Nat} (hsk : Z.2.1 sk = some (.inl 6)) (hsr : Z.2.2 sk 0 = some sp) (hsp : Z.2.1 sp = some (.inr (.int, 3 * m))) (hm1 : m ≤ 100) (hrp : Z.2.1 rp = some (.inr (.int, 10))) (hst : stOK (G sp) m) (num mi : Int32) : AC mX6_brightens 2 0 0 [.ref sk, .int num, .ref rp, .int mi] Z G L (RQ (.int (brR (G sp) num (G rp) mi m).1) Z G L) := by
  refine AC.intro (by decide +kernel) (Nat.le_of_ble_eq_true rfl) ?_
  refine ax_lv [(0, .ref sk), (1, .int num), (2, .ref rp), (3, .int mi)] ⟨rfl, rfl, rfl, rfl, trivial⟩ ?_
  refine ax_iconst (v := 0) dX6_brightens_0 (by decide) ?_
  refine ax_istore dX6_brightens_1 (by decide) rfl ?_
  refine ax_iconst (v := 0) dX6_brightens_3 (by decide) ?_
  refine ax_istore dX6_brightens_4 (by decide) rfl ?_
  refine ax_iconst (v := 0) dX6_brightens_6 (by decide) ?_
  refine ax_istore dX6_brightens_7 (by decide) rfl ?_
  refine ax_lv [(0, .ref sk), (1, .int num), (2, .ref rp), (3, .int mi), (4, .int (brR (G sp) num (G rp) mi 0).1), (5, .int (brR (G sp) num (G rp) mi 0).2), (6, .int (nI (3 * 0)))] ⟨rfl, rfl, rfl, rfl, rfl, rfl, rfl, trivial⟩ ?_
  refine l_X6_brightens hsk hsr hsp hm1 hrp hst num mi ?_ (m + 1) 0 (by omega) (by omega)
  refine ax_iload dX6_brightens_204 rfl ?_
  refine ax_iret dX6_brightens_206 rfl rfl (Nat.le_of_ble_eq_true rfl) (Nat.le_of_ble_eq_true rfl) ?_
  exact rq rfl
