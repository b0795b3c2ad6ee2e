-- ===== the model: a clause =====
/-- what a letter of a test stands for -/
def letF (num : Int32) (row : Nat → Int32) (mi l : Int32) : Int32 := if l = 0 then num else if l = 1 then row 0 else if l = 2 then row 1 else if l = 3 then row 2 else if l = 4 then row 4 / 10 else mi - mi / 10 * 10
def tstM (num : Int32) (row : Nat → Int32) (mi c : Int32) : Int32 := if (c - 3) / 100 - (c - 3) / 100 / 3 * 3 = 0 then (if (c - 3) - (c - 3) / 100 * 100 ≤ letF num row mi ((c - 3) / 300) then 0 else 1) else if (c - 3) / 100 - (c - 3) / 100 / 3 * 3 = 1 then (if letF num row mi ((c - 3) / 300) = (c - 3) - (c - 3) / 100 * 100 then 1 else 0) else (if letF num row mi ((c - 3) / 300) ≤ (c - 3) - (c - 3) / 100 * 100 then 0 else 1)
/-- the stack after k signs of code -/
def stM (cd : Nat → Int32) (num : Int32) (row : Nat → Int32) (mi : Int32) : Nat → Nat × (Nat → Int32)
  | 0 => (0, fun _ => 0)
  | k + 1 =>
    if cd k < 3 then
      (if cd k = 0 then ((stM cd num row mi k).1, up1 (stM cd num row mi k).2 ((stM cd num row mi k).1 - 1) (if (stM cd num row mi k).2 ((stM cd num row mi k).1 - 1) = 0 then 1 else 0))
      else ((stM cd num row mi k).1 - 1, up1 (stM cd num row mi k).2 ((stM cd num row mi k).1 - 2) (if cd k = 1 then (if (stM cd num row mi k).2 ((stM cd num row mi k).1 - 2) = 0 then 0 else if (stM cd num row mi k).2 ((stM cd num row mi k).1 - 1) = 0 then 0 else 1) else (if (stM cd num row mi k).2 ((stM cd num row mi k).1 - 2) = 0 then (if (stM cd num row mi k).2 ((stM cd num row mi k).1 - 1) = 0 then 0 else 1) else 1))))
    else ((stM cd num row mi k).1 + 1, up1 (stM cd num row mi k).2 (stM cd num row mi k).1 (tstM num row mi (cd k)))
section STM
variable {cd : Nat → Int32} {num : Int32} {row : Nat → Int32} {mi : Int32} {k : Nat}
theorem stM_not (c1 : cd k < 3) (c2 : cd k = 0) : stM cd num row mi (k + 1) = ((stM cd num row mi k).1, up1 (stM cd num row mi k).2 ((stM cd num row mi k).1 - 1) (if (stM cd num row mi k).2 ((stM cd num row mi k).1 - 1) = 0 then 1 else 0)) := by rw [stM, if_pos c1, if_pos c2]
theorem stM_bin (c1 : cd k < 3) (c2 : ¬ cd k = 0) : stM cd num row mi (k + 1) = ((stM cd num row mi k).1 - 1, up1 (stM cd num row mi k).2 ((stM cd num row mi k).1 - 2) (if cd k = 1 then (if (stM cd num row mi k).2 ((stM cd num row mi k).1 - 2) = 0 then 0 else if (stM cd num row mi k).2 ((stM cd num row mi k).1 - 1) = 0 then 0 else 1) else (if (stM cd num row mi k).2 ((stM cd num row mi k).1 - 2) = 0 then (if (stM cd num row mi k).2 ((stM cd num row mi k).1 - 1) = 0 then 0 else 1) else 1))) := by rw [stM, if_pos c1, if_neg c2]
theorem stM_tst (c1 : ¬ cd k < 3) : stM cd num row mi (k + 1) = ((stM cd num row mi k).1 + 1, up1 (stM cd num row mi k).2 (stM cd num row mi k).1 (tstM num row mi (cd k))) := by rw [stM, if_neg c1]
end STM
def dpM (cd : Nat → Int32) : Nat → Nat
  | 0 => 0
  | k + 1 => if cd k < 3 then (if cd k = 0 then dpM cd k else dpM cd k - 1) else dpM cd k + 1
theorem stM_dp {cd : Nat → Int32} {num : Int32} {row : Nat → Int32} {mi : Int32} : ∀ k, (stM cd num row mi k).1 = dpM cd k
  | 0 => rfl
  | k + 1 => by
    unfold stM dpM
    have ih := stM_dp (cd := cd) (num := num) (row := row) (mi := mi) k
    by_cases c1 : cd k < 3
    · rw [if_pos c1, if_pos c1]
      by_cases c2 : cd k = 0
      · rw [if_pos c2, if_pos c2]; exact ih
      · rw [if_neg c2, if_neg c2]; show _ - 1 = _; rw [ih]
    · rw [if_neg c1, if_neg c1]; show _ + 1 = _; rw [ih]
def cdOK (cd : Nat → Int32) (n : Nat) : Prop := (∀ k, k < n → if cd k < 3 then (if cd k = 0 then 1 ≤ dpM cd k else 2 ≤ dpM cd k) else dpM cd k < 100) ∧ dpM cd n = 1
theorem dp_le {cd : Nat → Int32} {n : Nat} (h : cdOK cd n) : ∀ k, k ≤ n → dpM cd k ≤ 100
  | 0, _ => Nat.zero_le _
  | k + 1, hk => by
    have ih := dp_le h k (by omega)
    have hk := h.1 k (by omega)
    unfold dpM
    by_cases c1 : cd k < 3
    · rw [if_pos c1]
      by_cases c2 : cd k = 0
      · rw [if_pos c2]; exact ih
      · rw [if_neg c2]; omega
    · rw [if_neg c1]
      rw [if_neg c1] at hk
      omega
theorem stM_row {cd : Nat → Int32} {num : Int32} {row row' : Nat → Int32} {mi : Int32} (h : ∀ i, i < 10 → row i = row' i) : ∀ k, stM cd num row mi k = stM cd num row' mi k
  | 0 => rfl
  | k + 1 => by
    have e : ∀ c, tstM num row mi c = tstM num row' mi c := fun c => by
      unfold tstM letF
      rw [h 0 (by decide), h 1 (by decide), h 2 (by decide), h 4 (by decide)]
    unfold stM
    rw [stM_row h k, e]
theorem letM {G G0 : Gt} {L : Lt} {p : Nat} (hp : p < 6) (hf : ∀ a, a ≠ 92 → G a = G0 a) (l : Int32) : r_X12_letterOf G L (nI p) l = letF (nI p) (fun i => G0 (78 + i) p) (G0 75 10) l := by
  unfold r_X12_letterOf letF
  rw [nI_clamp (by omega), hf 78 (by decide), hf 79 (by decide), hf 80 (by decide), hf 82 (by decide), hf 75 (by decide)]
theorem nzB1 : vp_nar .boolean 1 = 1 := by decide
theorem nzB0 : vp_nar .boolean 0 = 0 := by decide
/-- a push, or a change on the stack -/
theorem stk_up {G : Gt} {f : Nat → Int32} {t i t' : Nat} {x y : Int32} (hs : ∀ j, j < t → G 92 j = f j) (hx : x = y) (h : ∀ j, j < t' → j < t ∨ j = i) : ∀ j, j < t' → up2 G 92 i x 92 j = up1 f i y j := by
  intro j hj
  by_cases e : j = i
  · rw [e, up2_s, up1_s]; exact hx
  · rw [up2_i e, up1_n e]
    rcases h j hj with q | q
    · exact hs j q
    · exact absurd q e
theorem l_isTrue {Z : Zt} {G0 : Gt} {L : Lt} {Q : Qt} (hZ : OK Z) (p c b n : Nat) (hp : p < 6) (hc : c < 61) (hb : G0 89 c = nI b) (hn : G0 90 c = nI n) (hbn : b + n ≤ 800) (hok : cdOK (fun k => G0 91 (b + k)) n) (hend : ∀ G : Gt, (∀ a, a ≠ 92 → G a = G0 a) → G 92 0 = (stM (fun k => G0 91 (b + k)) (nI p) (fun i => G0 (78 + i) p) (G0 75 10) n).2 0 → AX none mX12_isTrue 2 0 0 0 0 251 [(0, .ref 75)] [] Z G L Q) : ∀ (r q : Nat), q ≤ n → n - q < r → ∀ G : Gt, (∀ a, a ≠ 92 → G a = G0 a) → (∀ j, j < (stM (fun k => G0 91 (b + k)) (nI p) (fun i => G0 (78 + i) p) (G0 75 10) q).1 → G 92 j = (stM (fun k => G0 91 (b + k)) (nI p) (fun i => G0 (78 + i) p) (G0 75 10) q).2 j) → AX none mX12_isTrue 2 0 0 0 0 10 [(0, .ref 75), (1, .int (nI p)), (2, .int (nI c)), (3, .int (nI (stM (fun k => G0 91 (b + k)) (nI p) (fun i => G0 (78 + i) p) (G0 75 10) q).1)), (4, .int (nI (b + q)))] [] Z G L Q := by
  intro r
  induction r with
  | zero => intro q h1 h2; omega
  | succ r ih =>
    intro q h1 h2 G hf hs
    refine ax_iload dX12_isTrue_10 rfl ?_
    refine ax_aload_n (i := 0) dX12_isTrue_12 rfl rfl ?_
    refine ax_getR dX12_isTrue_13 fl_X12_51 rfl (OKs hZ rfl) (OKr hZ rfl) ?_
    refine ax_iload_n (i := 2) dX12_isTrue_16 rfl rfl ?_
    refine ax_ialdN c dX12_isTrue_17 (OKs hZ rfl) rfl hc (by decide) ?_
    refine ax_top (congrArg Value.int ((congrFun (hf 89 (by decide)) c).trans hb)) ?_
    refine ax_aload_n (i := 0) dX12_isTrue_18 rfl rfl ?_
    refine ax_getR dX12_isTrue_19 fl_X12_54 rfl (OKs hZ rfl) (OKr hZ rfl) ?_
    refine ax_iload_n (i := 2) dX12_isTrue_22 rfl rfl ?_
    refine ax_ialdN c dX12_isTrue_23 (OKs hZ rfl) rfl hc (by decide) ?_
    refine ax_top (congrArg Value.int ((congrFun (hf 90 (by decide)) c).trans hn)) ?_
    refine ax_iadd dX12_isTrue_24 ?_
    refine ax_top (congrArg Value.int (nI_add b n)) ?_
    refine ax_icmp_ge (tgt := 251) dX12_isTrue_25 (by decide) (fun c_25 => ?_) (fun c_25 => ?_)
    · obtain rfl : q = n := by have := (nI_leI (by omega) (by omega)).mp c_25; omega
      exact ax_lv [(0, .ref 75)] ⟨rfl, trivial⟩ (hend G hf (hs 0 (by rw [stM_dp, hok.2]; decide)))
    · have hqm : q < n := by have := mt (nI_leI (by omega) (by omega)).mpr c_25; omega
      have hcq := hok.1 q hqm
      have h100 := dp_le hok q (by omega)
      have hdq := stM_dp (cd := fun k => G0 91 (b + k)) (num := nI p) (row := fun i => G0 (78 + i) p) (mi := G0 75 10) q
      refine ax_aload_n (i := 0) dX12_isTrue_28 rfl rfl ?_
      refine ax_getR dX12_isTrue_29 fl_X12_57 rfl (OKs hZ rfl) (OKr hZ rfl) ?_
      refine ax_iload dX12_isTrue_32 rfl ?_
      refine ax_ialdN (b + q) dX12_isTrue_34 (OKs hZ rfl) rfl (show b + q < 800 by omega) (by decide) ?_
      refine ax_top (congrArg Value.int (congrFun (hf 91 (by decide)) (b + q))) ?_
      refine ax_istore dX12_isTrue_35 (by decide) rfl ?_
      refine ax_iload dX12_isTrue_37 rfl ?_
      refine ax_iconst (v := 3) dX12_isTrue_39 (by decide) ?_
      refine ax_icmp_lt (tgt := 143) dX12_isTrue_40 (by decide) (fun c_40 => ?_) (fun c_40 => ?_)
      · have c40 : (fun k => G0 91 (b + k)) q < 3 := c_40
        rw [if_pos c40] at hcq
        refine ax_iload dX12_isTrue_143 rfl ?_
        refine ax_if_ne (tgt := 175) dX12_isTrue_145 (by decide) (fun c_145 => ?_) (fun c_145 => ?_)
        · rw [if_neg (show ¬ (fun k => G0 91 (b + k)) q = 0 from c_145)] at hcq
          refine ax_iinc (v := (nI (stM (fun k => G0 91 (b + k)) (nI p) (fun i => G0 (78 + i) p) (G0 75 10) q).1) + (-1)) dX12_isTrue_175 rfl rfl (by decide) rfl ?_
          have mm1 : nI (stM (fun k => G0 91 (b + k)) (nI p) (fun i => G0 (78 + i) p) (G0 75 10) q).1 + (-1) = nI ((stM (fun k => G0 91 (b + k)) (nI p) (fun i => G0 (78 + i) p) (G0 75 10) q).1 - 1) := by rw [i32_m1]; exact pk_sub (b := 1) (by omega)
          have mm2 : nI (stM (fun k => G0 91 (b + k)) (nI p) (fun i => G0 (78 + i) p) (G0 75 10) q).1 + (-1) - 1 = nI ((stM (fun k => G0 91 (b + k)) (nI p) (fun i => G0 (78 + i) p) (G0 75 10) q).1 - 2) := by rw [mm1]; exact (pk_sub (b := 1) (by omega)).trans (congrArg nI (by omega))
          refine ax_aload_n (i := 0) dX12_isTrue_178 rfl rfl ?_
          refine ax_getR dX12_isTrue_179 fl_X12_60 rfl (OKs hZ rfl) (OKr hZ rfl) ?_
          refine ax_iload_n (i := 3) dX12_isTrue_182 rfl rfl ?_
          refine ax_iconst (v := 1) dX12_isTrue_183 (by decide) ?_
          refine ax_isub dX12_isTrue_184 ?_
          refine ax_iload dX12_isTrue_185 rfl ?_
          refine ax_iconst (v := 1) dX12_isTrue_187 (by decide) ?_
          refine ax_icmp_ne (tgt := 219) dX12_isTrue_188 (by decide) (fun c_188 => ?_) (fun c_188 => ?_)
          · refine ax_aload_n (i := 0) dX12_isTrue_219 rfl rfl ?_
            refine ax_getR dX12_isTrue_220 fl_X12_60 rfl (OKs hZ rfl) (OKr hZ rfl) ?_
            refine ax_iload_n (i := 3) dX12_isTrue_223 rfl rfl ?_
            refine ax_iconst (v := 1) dX12_isTrue_224 (by decide) ?_
            refine ax_isub dX12_isTrue_225 ?_
            refine ax_zaldN ((stM (fun k => G0 91 (b + k)) (nI p) (fun i => G0 (78 + i) p) (G0 75 10) q).1 - 2) dX12_isTrue_226 (OKs hZ rfl) mm2 (show _ < 110 by omega) (by decide) ?_
            refine ax_top (congrArg Value.int (hs _ (by omega))) ?_
            refine ax_if_ne (tgt := 239) dX12_isTrue_227 (by decide) (fun c_227 => ?_) (fun c_227 => ?_)
            · have d227 := c_227
              refine ax_iconst (v := 1) dX12_isTrue_239 (by decide) ?_
              refine ax_goto (tgt := 244) dX12_isTrue_240 (by decide) ?_
              refine ax_zastN ((stM (fun k => G0 91 (b + k)) (nI p) (fun i => G0 (78 + i) p) (G0 75 10) q).1 - 2) dX12_isTrue_244 (OKs hZ rfl) mm2 (show _ < 110 by omega) (by decide) ?_
              refine ax_iinc (v := (nI (b + q)) + 1) dX12_isTrue_245 rfl rfl (by decide) rfl ?_
              refine ax_goto (tgt := 10) dX12_isTrue_248 (by decide) ?_
              have e9 := stM_bin (cd := (fun k => G0 91 (b + k))) (num := nI p) (row := (fun i => G0 (78 + i) p)) (mi := G0 75 10) (k := q) c40 c_145
              refine ax_lv [(0, .ref 75), (1, .int (nI p)), (2, .int (nI c)), (3, .int (nI (stM (fun k => G0 91 (b + k)) (nI p) (fun i => G0 (78 + i) p) (G0 75 10) (q + 1)).1)), (4, .int (nI (b + (q + 1))))] ⟨rfl, rfl, rfl, sI (by rw [e9]; show nI _ + (-1) = nI (_ - 1); rw [i32_m1]; exact pk_sub (b := 1) (by omega)), sI (nI_1 (b + q)), trivial⟩ ?_
              refine ih (q + 1) (by omega) (by omega) _ (fun a ha => (up2_row ha).trans (hf a ha)) ?_
              rw [e9]
              exact stk_up hs (nzB1.trans ((by rw [if_neg c_188, if_neg d227]) : (1 : Int32) = _)) (fun j hj => by dsimp only at hj; omega)
            · have d227 := c_227
              refine ax_aload_n (i := 0) dX12_isTrue_230 rfl rfl ?_
              refine ax_getR dX12_isTrue_231 fl_X12_60 rfl (OKs hZ rfl) (OKr hZ rfl) ?_
              refine ax_iload_n (i := 3) dX12_isTrue_234 rfl rfl ?_
              refine ax_zaldN ((stM (fun k => G0 91 (b + k)) (nI p) (fun i => G0 (78 + i) p) (G0 75 10) q).1 - 1) dX12_isTrue_235 (OKs hZ rfl) mm1 (show _ < 110 by omega) (by decide) ?_
              refine ax_top (congrArg Value.int (hs _ (by omega))) ?_
              refine ax_if_eq (tgt := 243) dX12_isTrue_236 (by decide) (fun c_236 => ?_) (fun c_236 => ?_)
              · have d236 := c_236
                refine ax_iconst (v := 0) dX12_isTrue_243 (by decide) ?_
                refine ax_zastN ((stM (fun k => G0 91 (b + k)) (nI p) (fun i => G0 (78 + i) p) (G0 75 10) q).1 - 2) dX12_isTrue_244 (OKs hZ rfl) mm2 (show _ < 110 by omega) (by decide) ?_
                refine ax_iinc (v := (nI (b + q)) + 1) dX12_isTrue_245 rfl rfl (by decide) rfl ?_
                refine ax_goto (tgt := 10) dX12_isTrue_248 (by decide) ?_
                have e9 := stM_bin (cd := (fun k => G0 91 (b + k))) (num := nI p) (row := (fun i => G0 (78 + i) p)) (mi := G0 75 10) (k := q) c40 c_145
                refine ax_lv [(0, .ref 75), (1, .int (nI p)), (2, .int (nI c)), (3, .int (nI (stM (fun k => G0 91 (b + k)) (nI p) (fun i => G0 (78 + i) p) (G0 75 10) (q + 1)).1)), (4, .int (nI (b + (q + 1))))] ⟨rfl, rfl, rfl, sI (by rw [e9]; show nI _ + (-1) = nI (_ - 1); rw [i32_m1]; exact pk_sub (b := 1) (by omega)), sI (nI_1 (b + q)), trivial⟩ ?_
                refine ih (q + 1) (by omega) (by omega) _ (fun a ha => (up2_row ha).trans (hf a ha)) ?_
                rw [e9]
                exact stk_up hs (nzB0.trans ((by rw [if_neg c_188, if_pos d227, if_pos d236]) : (0 : Int32) = _)) (fun j hj => by dsimp only at hj; omega)
              · have d236 := c_236
                refine ax_iconst (v := 1) dX12_isTrue_239 (by decide) ?_
                refine ax_goto (tgt := 244) dX12_isTrue_240 (by decide) ?_
                refine ax_zastN ((stM (fun k => G0 91 (b + k)) (nI p) (fun i => G0 (78 + i) p) (G0 75 10) q).1 - 2) dX12_isTrue_244 (OKs hZ rfl) mm2 (show _ < 110 by omega) (by decide) ?_
                refine ax_iinc (v := (nI (b + q)) + 1) dX12_isTrue_245 rfl rfl (by decide) rfl ?_
                refine ax_goto (tgt := 10) dX12_isTrue_248 (by decide) ?_
                have e9 := stM_bin (cd := (fun k => G0 91 (b + k))) (num := nI p) (row := (fun i => G0 (78 + i) p)) (mi := G0 75 10) (k := q) c40 c_145
                refine ax_lv [(0, .ref 75), (1, .int (nI p)), (2, .int (nI c)), (3, .int (nI (stM (fun k => G0 91 (b + k)) (nI p) (fun i => G0 (78 + i) p) (G0 75 10) (q + 1)).1)), (4, .int (nI (b + (q + 1))))] ⟨rfl, rfl, rfl, sI (by rw [e9]; show nI _ + (-1) = nI (_ - 1); rw [i32_m1]; exact pk_sub (b := 1) (by omega)), sI (nI_1 (b + q)), trivial⟩ ?_
                refine ih (q + 1) (by omega) (by omega) _ (fun a ha => (up2_row ha).trans (hf a ha)) ?_
                rw [e9]
                exact stk_up hs (nzB1.trans ((by rw [if_neg c_188, if_pos d227, if_neg d236]) : (1 : Int32) = _)) (fun j hj => by dsimp only at hj; omega)
          · refine ax_aload_n (i := 0) dX12_isTrue_191 rfl rfl ?_
            refine ax_getR dX12_isTrue_192 fl_X12_60 rfl (OKs hZ rfl) (OKr hZ rfl) ?_
            refine ax_iload_n (i := 3) dX12_isTrue_195 rfl rfl ?_
            refine ax_iconst (v := 1) dX12_isTrue_196 (by decide) ?_
            refine ax_isub dX12_isTrue_197 ?_
            refine ax_zaldN ((stM (fun k => G0 91 (b + k)) (nI p) (fun i => G0 (78 + i) p) (G0 75 10) q).1 - 2) dX12_isTrue_198 (OKs hZ rfl) mm2 (show _ < 110 by omega) (by decide) ?_
            refine ax_top (congrArg Value.int (hs _ (by omega))) ?_
            refine ax_if_eq (tgt := 215) dX12_isTrue_199 (by decide) (fun c_199 => ?_) (fun c_199 => ?_)
            · have d199 := c_199
              refine ax_iconst (v := 0) dX12_isTrue_215 (by decide) ?_
              refine ax_goto (tgt := 244) dX12_isTrue_216 (by decide) ?_
              refine ax_zastN ((stM (fun k => G0 91 (b + k)) (nI p) (fun i => G0 (78 + i) p) (G0 75 10) q).1 - 2) dX12_isTrue_244 (OKs hZ rfl) mm2 (show _ < 110 by omega) (by decide) ?_
              refine ax_iinc (v := (nI (b + q)) + 1) dX12_isTrue_245 rfl rfl (by decide) rfl ?_
              refine ax_goto (tgt := 10) dX12_isTrue_248 (by decide) ?_
              have e9 := stM_bin (cd := (fun k => G0 91 (b + k))) (num := nI p) (row := (fun i => G0 (78 + i) p)) (mi := G0 75 10) (k := q) c40 c_145
              refine ax_lv [(0, .ref 75), (1, .int (nI p)), (2, .int (nI c)), (3, .int (nI (stM (fun k => G0 91 (b + k)) (nI p) (fun i => G0 (78 + i) p) (G0 75 10) (q + 1)).1)), (4, .int (nI (b + (q + 1))))] ⟨rfl, rfl, rfl, sI (by rw [e9]; show nI _ + (-1) = nI (_ - 1); rw [i32_m1]; exact pk_sub (b := 1) (by omega)), sI (nI_1 (b + q)), trivial⟩ ?_
              refine ih (q + 1) (by omega) (by omega) _ (fun a ha => (up2_row ha).trans (hf a ha)) ?_
              rw [e9]
              exact stk_up hs (nzB0.trans ((by rw [if_pos c_188, if_pos d199]) : (0 : Int32) = _)) (fun j hj => by dsimp only at hj; omega)
            · have d199 := c_199
              refine ax_aload_n (i := 0) dX12_isTrue_202 rfl rfl ?_
              refine ax_getR dX12_isTrue_203 fl_X12_60 rfl (OKs hZ rfl) (OKr hZ rfl) ?_
              refine ax_iload_n (i := 3) dX12_isTrue_206 rfl rfl ?_
              refine ax_zaldN ((stM (fun k => G0 91 (b + k)) (nI p) (fun i => G0 (78 + i) p) (G0 75 10) q).1 - 1) dX12_isTrue_207 (OKs hZ rfl) mm1 (show _ < 110 by omega) (by decide) ?_
              refine ax_top (congrArg Value.int (hs _ (by omega))) ?_
              refine ax_if_eq (tgt := 215) dX12_isTrue_208 (by decide) (fun c_208 => ?_) (fun c_208 => ?_)
              · have d208 := c_208
                refine ax_iconst (v := 0) dX12_isTrue_215 (by decide) ?_
                refine ax_goto (tgt := 244) dX12_isTrue_216 (by decide) ?_
                refine ax_zastN ((stM (fun k => G0 91 (b + k)) (nI p) (fun i => G0 (78 + i) p) (G0 75 10) q).1 - 2) dX12_isTrue_244 (OKs hZ rfl) mm2 (show _ < 110 by omega) (by decide) ?_
                refine ax_iinc (v := (nI (b + q)) + 1) dX12_isTrue_245 rfl rfl (by decide) rfl ?_
                refine ax_goto (tgt := 10) dX12_isTrue_248 (by decide) ?_
                have e9 := stM_bin (cd := (fun k => G0 91 (b + k))) (num := nI p) (row := (fun i => G0 (78 + i) p)) (mi := G0 75 10) (k := q) c40 c_145
                refine ax_lv [(0, .ref 75), (1, .int (nI p)), (2, .int (nI c)), (3, .int (nI (stM (fun k => G0 91 (b + k)) (nI p) (fun i => G0 (78 + i) p) (G0 75 10) (q + 1)).1)), (4, .int (nI (b + (q + 1))))] ⟨rfl, rfl, rfl, sI (by rw [e9]; show nI _ + (-1) = nI (_ - 1); rw [i32_m1]; exact pk_sub (b := 1) (by omega)), sI (nI_1 (b + q)), trivial⟩ ?_
                refine ih (q + 1) (by omega) (by omega) _ (fun a ha => (up2_row ha).trans (hf a ha)) ?_
                rw [e9]
                exact stk_up hs (nzB0.trans ((by rw [if_pos c_188, if_neg d199, if_pos d208]) : (0 : Int32) = _)) (fun j hj => by dsimp only at hj; omega)
              · have d208 := c_208
                refine ax_iconst (v := 1) dX12_isTrue_211 (by decide) ?_
                refine ax_goto (tgt := 244) dX12_isTrue_212 (by decide) ?_
                refine ax_zastN ((stM (fun k => G0 91 (b + k)) (nI p) (fun i => G0 (78 + i) p) (G0 75 10) q).1 - 2) dX12_isTrue_244 (OKs hZ rfl) mm2 (show _ < 110 by omega) (by decide) ?_
                refine ax_iinc (v := (nI (b + q)) + 1) dX12_isTrue_245 rfl rfl (by decide) rfl ?_
                refine ax_goto (tgt := 10) dX12_isTrue_248 (by decide) ?_
                have e9 := stM_bin (cd := (fun k => G0 91 (b + k))) (num := nI p) (row := (fun i => G0 (78 + i) p)) (mi := G0 75 10) (k := q) c40 c_145
                refine ax_lv [(0, .ref 75), (1, .int (nI p)), (2, .int (nI c)), (3, .int (nI (stM (fun k => G0 91 (b + k)) (nI p) (fun i => G0 (78 + i) p) (G0 75 10) (q + 1)).1)), (4, .int (nI (b + (q + 1))))] ⟨rfl, rfl, rfl, sI (by rw [e9]; show nI _ + (-1) = nI (_ - 1); rw [i32_m1]; exact pk_sub (b := 1) (by omega)), sI (nI_1 (b + q)), trivial⟩ ?_
                refine ih (q + 1) (by omega) (by omega) _ (fun a ha => (up2_row ha).trans (hf a ha)) ?_
                rw [e9]
                exact stk_up hs (nzB1.trans ((by rw [if_pos c_188, if_neg d199, if_neg d208]) : (1 : Int32) = _)) (fun j hj => by dsimp only at hj; omega)
        · rw [if_pos (show (fun k => G0 91 (b + k)) q = 0 from c_145)] at hcq
          refine ax_aload_n (i := 0) dX12_isTrue_148 rfl rfl ?_
          refine ax_getR dX12_isTrue_149 fl_X12_60 rfl (OKs hZ rfl) (OKr hZ rfl) ?_
          refine ax_iload_n (i := 3) dX12_isTrue_152 rfl rfl ?_
          refine ax_iconst (v := 1) dX12_isTrue_153 (by decide) ?_
          refine ax_isub dX12_isTrue_154 ?_
          refine ax_aload_n (i := 0) dX12_isTrue_155 rfl rfl ?_
          refine ax_getR dX12_isTrue_156 fl_X12_60 rfl (OKs hZ rfl) (OKr hZ rfl) ?_
          refine ax_iload_n (i := 3) dX12_isTrue_159 rfl rfl ?_
          refine ax_iconst (v := 1) dX12_isTrue_160 (by decide) ?_
          refine ax_isub dX12_isTrue_161 ?_
          refine ax_zaldN ((stM (fun k => G0 91 (b + k)) (nI p) (fun i => G0 (78 + i) p) (G0 75 10) q).1 - 1) dX12_isTrue_162 (OKs hZ rfl) (pk_sub (a := (stM (fun k => G0 91 (b + k)) (nI p) (fun i => G0 (78 + i) p) (G0 75 10) q).1) (b := 1) (by omega)) (show _ < 110 by omega) (by decide) ?_
          refine ax_top (congrArg Value.int (hs _ (by omega))) ?_
          refine ax_if_ne (tgt := 170) dX12_isTrue_163 (by decide) (fun c_163 => ?_) (fun c_163 => ?_)
          · have d163 := c_163
            refine ax_iconst (v := 0) dX12_isTrue_170 (by decide) ?_
            refine ax_zastN ((stM (fun k => G0 91 (b + k)) (nI p) (fun i => G0 (78 + i) p) (G0 75 10) q).1 - 1) dX12_isTrue_171 (OKs hZ rfl) (pk_sub (a := (stM (fun k => G0 91 (b + k)) (nI p) (fun i => G0 (78 + i) p) (G0 75 10) q).1) (b := 1) (by omega)) (show _ < 110 by omega) (by decide) ?_
            refine ax_goto (tgt := 245) dX12_isTrue_172 (by decide) ?_
            refine ax_iinc (v := (nI (b + q)) + 1) dX12_isTrue_245 rfl rfl (by decide) rfl ?_
            refine ax_goto (tgt := 10) dX12_isTrue_248 (by decide) ?_
            have e9 := stM_not (cd := (fun k => G0 91 (b + k))) (num := nI p) (row := (fun i => G0 (78 + i) p)) (mi := G0 75 10) (k := q) c40 c_145
            refine ax_lv [(0, .ref 75), (1, .int (nI p)), (2, .int (nI c)), (3, .int (nI (stM (fun k => G0 91 (b + k)) (nI p) (fun i => G0 (78 + i) p) (G0 75 10) (q + 1)).1)), (4, .int (nI (b + (q + 1))))] ⟨rfl, rfl, rfl, sI (by rw [e9]), sI (nI_1 (b + q)), trivial⟩ ?_
            refine ih (q + 1) (by omega) (by omega) _ (fun a ha => (up2_row ha).trans (hf a ha)) ?_
            rw [e9]
            exact stk_up hs (nzB0.trans ((by rw [if_neg d163]) : (0 : Int32) = _)) (fun j hj => by dsimp only at hj; omega)
          · have d163 := c_163
            refine ax_iconst (v := 1) dX12_isTrue_166 (by decide) ?_
            refine ax_goto (tgt := 171) dX12_isTrue_167 (by decide) ?_
            refine ax_zastN ((stM (fun k => G0 91 (b + k)) (nI p) (fun i => G0 (78 + i) p) (G0 75 10) q).1 - 1) dX12_isTrue_171 (OKs hZ rfl) (pk_sub (a := (stM (fun k => G0 91 (b + k)) (nI p) (fun i => G0 (78 + i) p) (G0 75 10) q).1) (b := 1) (by omega)) (show _ < 110 by omega) (by decide) ?_
            refine ax_goto (tgt := 245) dX12_isTrue_172 (by decide) ?_
            refine ax_iinc (v := (nI (b + q)) + 1) dX12_isTrue_245 rfl rfl (by decide) rfl ?_
            refine ax_goto (tgt := 10) dX12_isTrue_248 (by decide) ?_
            have e9 := stM_not (cd := (fun k => G0 91 (b + k))) (num := nI p) (row := (fun i => G0 (78 + i) p)) (mi := G0 75 10) (k := q) c40 c_145
            refine ax_lv [(0, .ref 75), (1, .int (nI p)), (2, .int (nI c)), (3, .int (nI (stM (fun k => G0 91 (b + k)) (nI p) (fun i => G0 (78 + i) p) (G0 75 10) (q + 1)).1)), (4, .int (nI (b + (q + 1))))] ⟨rfl, rfl, rfl, sI (by rw [e9]), sI (nI_1 (b + q)), trivial⟩ ?_
            refine ih (q + 1) (by omega) (by omega) _ (fun a ha => (up2_row ha).trans (hf a ha)) ?_
            rw [e9]
            exact stk_up hs (nzB1.trans ((by rw [if_pos d163]) : (1 : Int32) = _)) (fun j hj => by dsimp only at hj; omega)
      · have c40 : ¬ (fun k => G0 91 (b + k)) q < 3 := c_40
        rw [if_neg c40] at hcq
        refine ax_aload_n (i := 0) dX12_isTrue_43 rfl rfl ?_
        refine ax_iload_n (i := 1) dX12_isTrue_44 rfl rfl ?_
        refine ax_iload dX12_isTrue_45 rfl ?_
        refine ax_iconst (v := 3) dX12_isTrue_47 (by decide) ?_
        refine ax_isub dX12_isTrue_48 ?_
        refine ax_sipush (v := 300) dX12_isTrue_49 (by decide) ?_
        refine ax_idiv dX12_isTrue_52 (by decide) ?_
        refine ax_cVv dX12_isTrue_53 lk_X12_227 (c_X12_letterOf hZ (nI p) _ (by rw [nI_clamp (by omega)]) (by rw [nI_clamp (by omega)]; exact hp)) rfl (OKs hZ rfl) ⟨_, rfl, rfl⟩ rfl (Nat.le_of_ble_eq_true rfl) (Nat.le_of_ble_eq_true rfl) (Nat.le_of_ble_eq_true rfl) (Nat.le_of_ble_eq_true rfl) ?_
        refine ax_top (congrArg Value.int (letM hp hf _)) ?_
        refine ax_istore dX12_isTrue_56 (by decide) rfl ?_
        refine ax_iload dX12_isTrue_58 rfl ?_
        refine ax_iconst (v := 3) dX12_isTrue_60 (by decide) ?_
        refine ax_isub dX12_isTrue_61 ?_
        refine ax_bipush (v := 100) dX12_isTrue_62 (by decide) ?_
        refine ax_irem dX12_isTrue_64 (by decide) ?_
        refine ax_istore dX12_isTrue_65 (by decide) rfl ?_
        refine ax_iload dX12_isTrue_67 rfl ?_
        refine ax_iconst (v := 3) dX12_isTrue_69 (by decide) ?_
        refine ax_isub dX12_isTrue_70 ?_
        refine ax_bipush (v := 100) dX12_isTrue_71 (by decide) ?_
        refine ax_idiv dX12_isTrue_73 (by decide) ?_
        refine ax_iconst (v := 3) dX12_isTrue_74 (by decide) ?_
        refine ax_irem dX12_isTrue_75 (by decide) ?_
        refine ax_istore dX12_isTrue_76 (by decide) rfl ?_
        refine ax_aload_n (i := 0) dX12_isTrue_78 rfl rfl ?_
        refine ax_getR dX12_isTrue_79 fl_X12_60 rfl (OKs hZ rfl) (OKr hZ rfl) ?_
        refine ax_iload_n (i := 3) dX12_isTrue_82 rfl rfl ?_
        refine ax_iinc (v := (nI (stM (fun k => G0 91 (b + k)) (nI p) (fun i => G0 (78 + i) p) (G0 75 10) q).1) + 1) dX12_isTrue_83 rfl rfl (by decide) rfl ?_
        refine ax_iload dX12_isTrue_86 rfl ?_
        refine ax_if_ne (tgt := 106) dX12_isTrue_88 (by decide) (fun c_88 => ?_) (fun c_88 => ?_)
        · refine ax_iload dX12_isTrue_106 rfl ?_
          refine ax_iconst (v := 1) dX12_isTrue_108 (by decide) ?_
          refine ax_icmp_ne (tgt := 127) dX12_isTrue_109 (by decide) (fun c_109 => ?_) (fun c_109 => ?_)
          · refine ax_iload dX12_isTrue_127 rfl ?_
            refine ax_iload dX12_isTrue_129 rfl ?_
            refine ax_icmp_le (tgt := 138) dX12_isTrue_131 (by decide) (fun c_131 => ?_) (fun c_131 => ?_)
            · refine ax_iconst (v := 0) dX12_isTrue_138 (by decide) ?_
              refine ax_zastN ((stM (fun k => G0 91 (b + k)) (nI p) (fun i => G0 (78 + i) p) (G0 75 10) q).1) dX12_isTrue_139 (OKs hZ rfl) rfl (show _ < 110 by omega) (by decide) ?_
              refine ax_goto (tgt := 245) dX12_isTrue_140 (by decide) ?_
              refine ax_iinc (v := (nI (b + q)) + 1) dX12_isTrue_245 rfl rfl (by decide) rfl ?_
              refine ax_goto (tgt := 10) dX12_isTrue_248 (by decide) ?_
              have e9 := stM_tst (cd := (fun k => G0 91 (b + k))) (num := nI p) (row := (fun i => G0 (78 + i) p)) (mi := G0 75 10) (k := q) c40
              refine ax_lv [(0, .ref 75), (1, .int (nI p)), (2, .int (nI c)), (3, .int (nI (stM (fun k => G0 91 (b + k)) (nI p) (fun i => G0 (78 + i) p) (G0 75 10) (q + 1)).1)), (4, .int (nI (b + (q + 1))))] ⟨rfl, rfl, rfl, sI (by rw [e9]; exact nI_1 _), sI (nI_1 (b + q)), trivial⟩ ?_
              refine ih (q + 1) (by omega) (by omega) _ (fun a ha => (up2_row ha).trans (hf a ha)) ?_
              rw [e9]
              exact stk_up hs (nzB0.trans ((by unfold tstM; rw [if_neg c_88, if_neg c_109, if_pos c_131]) : (0 : Int32) = _)) (fun j hj => by dsimp only at hj; omega)
            · refine ax_iconst (v := 1) dX12_isTrue_134 (by decide) ?_
              refine ax_goto (tgt := 139) dX12_isTrue_135 (by decide) ?_
              refine ax_zastN ((stM (fun k => G0 91 (b + k)) (nI p) (fun i => G0 (78 + i) p) (G0 75 10) q).1) dX12_isTrue_139 (OKs hZ rfl) rfl (show _ < 110 by omega) (by decide) ?_
              refine ax_goto (tgt := 245) dX12_isTrue_140 (by decide) ?_
              refine ax_iinc (v := (nI (b + q)) + 1) dX12_isTrue_245 rfl rfl (by decide) rfl ?_
              refine ax_goto (tgt := 10) dX12_isTrue_248 (by decide) ?_
              have e9 := stM_tst (cd := (fun k => G0 91 (b + k))) (num := nI p) (row := (fun i => G0 (78 + i) p)) (mi := G0 75 10) (k := q) c40
              refine ax_lv [(0, .ref 75), (1, .int (nI p)), (2, .int (nI c)), (3, .int (nI (stM (fun k => G0 91 (b + k)) (nI p) (fun i => G0 (78 + i) p) (G0 75 10) (q + 1)).1)), (4, .int (nI (b + (q + 1))))] ⟨rfl, rfl, rfl, sI (by rw [e9]; exact nI_1 _), sI (nI_1 (b + q)), trivial⟩ ?_
              refine ih (q + 1) (by omega) (by omega) _ (fun a ha => (up2_row ha).trans (hf a ha)) ?_
              rw [e9]
              exact stk_up hs (nzB1.trans ((by unfold tstM; rw [if_neg c_88, if_neg c_109, if_neg c_131]) : (1 : Int32) = _)) (fun j hj => by dsimp only at hj; omega)
          · refine ax_iload dX12_isTrue_112 rfl ?_
            refine ax_iload dX12_isTrue_114 rfl ?_
            refine ax_icmp_ne (tgt := 123) dX12_isTrue_116 (by decide) (fun c_116 => ?_) (fun c_116 => ?_)
            · refine ax_iconst (v := 0) dX12_isTrue_123 (by decide) ?_
              refine ax_goto (tgt := 139) dX12_isTrue_124 (by decide) ?_
              refine ax_zastN ((stM (fun k => G0 91 (b + k)) (nI p) (fun i => G0 (78 + i) p) (G0 75 10) q).1) dX12_isTrue_139 (OKs hZ rfl) rfl (show _ < 110 by omega) (by decide) ?_
              refine ax_goto (tgt := 245) dX12_isTrue_140 (by decide) ?_
              refine ax_iinc (v := (nI (b + q)) + 1) dX12_isTrue_245 rfl rfl (by decide) rfl ?_
              refine ax_goto (tgt := 10) dX12_isTrue_248 (by decide) ?_
              have e9 := stM_tst (cd := (fun k => G0 91 (b + k))) (num := nI p) (row := (fun i => G0 (78 + i) p)) (mi := G0 75 10) (k := q) c40
              refine ax_lv [(0, .ref 75), (1, .int (nI p)), (2, .int (nI c)), (3, .int (nI (stM (fun k => G0 91 (b + k)) (nI p) (fun i => G0 (78 + i) p) (G0 75 10) (q + 1)).1)), (4, .int (nI (b + (q + 1))))] ⟨rfl, rfl, rfl, sI (by rw [e9]; exact nI_1 _), sI (nI_1 (b + q)), trivial⟩ ?_
              refine ih (q + 1) (by omega) (by omega) _ (fun a ha => (up2_row ha).trans (hf a ha)) ?_
              rw [e9]
              exact stk_up hs (nzB0.trans ((by unfold tstM; rw [if_neg c_88, if_pos c_109, if_neg c_116]) : (0 : Int32) = _)) (fun j hj => by dsimp only at hj; omega)
            · refine ax_iconst (v := 1) dX12_isTrue_119 (by decide) ?_
              refine ax_goto (tgt := 139) dX12_isTrue_120 (by decide) ?_
              refine ax_zastN ((stM (fun k => G0 91 (b + k)) (nI p) (fun i => G0 (78 + i) p) (G0 75 10) q).1) dX12_isTrue_139 (OKs hZ rfl) rfl (show _ < 110 by omega) (by decide) ?_
              refine ax_goto (tgt := 245) dX12_isTrue_140 (by decide) ?_
              refine ax_iinc (v := (nI (b + q)) + 1) dX12_isTrue_245 rfl rfl (by decide) rfl ?_
              refine ax_goto (tgt := 10) dX12_isTrue_248 (by decide) ?_
              have e9 := stM_tst (cd := (fun k => G0 91 (b + k))) (num := nI p) (row := (fun i => G0 (78 + i) p)) (mi := G0 75 10) (k := q) c40
              refine ax_lv [(0, .ref 75), (1, .int (nI p)), (2, .int (nI c)), (3, .int (nI (stM (fun k => G0 91 (b + k)) (nI p) (fun i => G0 (78 + i) p) (G0 75 10) (q + 1)).1)), (4, .int (nI (b + (q + 1))))] ⟨rfl, rfl, rfl, sI (by rw [e9]; exact nI_1 _), sI (nI_1 (b + q)), trivial⟩ ?_
              refine ih (q + 1) (by omega) (by omega) _ (fun a ha => (up2_row ha).trans (hf a ha)) ?_
              rw [e9]
              exact stk_up hs (nzB1.trans ((by unfold tstM; rw [if_neg c_88, if_pos c_109, if_pos c_116]) : (1 : Int32) = _)) (fun j hj => by dsimp only at hj; omega)
        · refine ax_iload dX12_isTrue_91 rfl ?_
          refine ax_iload dX12_isTrue_93 rfl ?_
          refine ax_icmp_ge (tgt := 102) dX12_isTrue_95 (by decide) (fun c_95 => ?_) (fun c_95 => ?_)
          · refine ax_iconst (v := 0) dX12_isTrue_102 (by decide) ?_
            refine ax_goto (tgt := 139) dX12_isTrue_103 (by decide) ?_
            refine ax_zastN ((stM (fun k => G0 91 (b + k)) (nI p) (fun i => G0 (78 + i) p) (G0 75 10) q).1) dX12_isTrue_139 (OKs hZ rfl) rfl (show _ < 110 by omega) (by decide) ?_
            refine ax_goto (tgt := 245) dX12_isTrue_140 (by decide) ?_
            refine ax_iinc (v := (nI (b + q)) + 1) dX12_isTrue_245 rfl rfl (by decide) rfl ?_
            refine ax_goto (tgt := 10) dX12_isTrue_248 (by decide) ?_
            have e9 := stM_tst (cd := (fun k => G0 91 (b + k))) (num := nI p) (row := (fun i => G0 (78 + i) p)) (mi := G0 75 10) (k := q) c40
            refine ax_lv [(0, .ref 75), (1, .int (nI p)), (2, .int (nI c)), (3, .int (nI (stM (fun k => G0 91 (b + k)) (nI p) (fun i => G0 (78 + i) p) (G0 75 10) (q + 1)).1)), (4, .int (nI (b + (q + 1))))] ⟨rfl, rfl, rfl, sI (by rw [e9]; exact nI_1 _), sI (nI_1 (b + q)), trivial⟩ ?_
            refine ih (q + 1) (by omega) (by omega) _ (fun a ha => (up2_row ha).trans (hf a ha)) ?_
            rw [e9]
            exact stk_up hs (nzB0.trans ((by unfold tstM; rw [if_pos c_88, if_pos c_95]) : (0 : Int32) = _)) (fun j hj => by dsimp only at hj; omega)
          · refine ax_iconst (v := 1) dX12_isTrue_98 (by decide) ?_
            refine ax_goto (tgt := 139) dX12_isTrue_99 (by decide) ?_
            refine ax_zastN ((stM (fun k => G0 91 (b + k)) (nI p) (fun i => G0 (78 + i) p) (G0 75 10) q).1) dX12_isTrue_139 (OKs hZ rfl) rfl (show _ < 110 by omega) (by decide) ?_
            refine ax_goto (tgt := 245) dX12_isTrue_140 (by decide) ?_
            refine ax_iinc (v := (nI (b + q)) + 1) dX12_isTrue_245 rfl rfl (by decide) rfl ?_
            refine ax_goto (tgt := 10) dX12_isTrue_248 (by decide) ?_
            have e9 := stM_tst (cd := (fun k => G0 91 (b + k))) (num := nI p) (row := (fun i => G0 (78 + i) p)) (mi := G0 75 10) (k := q) c40
            refine ax_lv [(0, .ref 75), (1, .int (nI p)), (2, .int (nI c)), (3, .int (nI (stM (fun k => G0 91 (b + k)) (nI p) (fun i => G0 (78 + i) p) (G0 75 10) (q + 1)).1)), (4, .int (nI (b + (q + 1))))] ⟨rfl, rfl, rfl, sI (by rw [e9]; exact nI_1 _), sI (nI_1 (b + q)), trivial⟩ ?_
            refine ih (q + 1) (by omega) (by omega) _ (fun a ha => (up2_row ha).trans (hf a ha)) ?_
            rw [e9]
            exact stk_up hs (nzB1.trans ((by unfold tstM; rw [if_pos c_88, if_neg c_95]) : (1 : Int32) = _)) (fun j hj => by dsimp only at hj; omega)
