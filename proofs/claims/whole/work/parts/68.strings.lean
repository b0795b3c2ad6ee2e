-- ===== strings =====
/-- the j-th sign of the i-th string -/
def sB (i j : Nat) : Int32 := (sByt.getD i []).getD j 0
theorem sB_c : ∀ i, i < 7 → ∀ j, j < 7 → (((sB i j) &&& 255).toUInt32 % 65536).toInt32 = sB i j := by decide +kernel
theorem sL_s : ∀ i, i < 7 → nI (sLen.getD i 0) >>> ((0 : Int32) &&& 31) = nI (sLen.getD i 0) := by decide +kernel
theorem sL_7 : ∀ i, i < 7 → sLen.getD i 0 ≤ 7 ∧ 0 < sLen.getD i 0 := by decide
def fsS (i c : Nat) : Nat → Nat → Int32
  | 0, _ => -1
  | r + 1, j => if sB i j = nI c then nI j else fsS i c r (j + 1)
theorem fs_3 : ∀ c, c < 128 → fsS 3 c 6 0 = if liT c = 6 then -1 else nI (liT c) := by decide +kernel
theorem fs_6 : ∀ c, c < 128 → fsS 6 c 3 0 = if siT c = 3 then -1 else nI (siT c) := by decide +kernel
theorem by_c : ∀ c, c < 128 → (nI c).toInt8.toInt32 = nI c := by decide +kernel
theorem ch_c : ∀ c, c < 128 → ((nI c).toUInt32 % 65536).toInt32 = nI c := by decide +kernel
theorem nch_s : ∀ i, i < 7 → ∀ j, j < 7 → narrow .char (.int (sB i j)) = .int (sB i j) := by
  intro i hi j hj
  have := sB_c i hi j hj
  rcases (show i = 0 ∨ i = 1 ∨ i = 2 ∨ i = 3 ∨ i = 4 ∨ i = 5 ∨ i = 6 by omega) with rfl | rfl | rfl | rfl | rfl | rfl | rfl <;> rcases (show j = 0 ∨ j = 1 ∨ j = 2 ∨ j = 3 ∨ j = 4 ∨ j = 5 ∨ j = 6 by omega) with rfl | rfl | rfl | rfl | rfl | rfl | rfl <;> rfl
theorem c_coder {Z : Zt} {G : Gt} {L : Lt} {i : Nat} (hi : i < 7) : AC mJ0_coder_7d493 1 0 0 [.ref (1000 + i)] Z G L (RQ (.int 0) Z G L) := by
  refine AC.introF (by decide +kernel) (Nat.le_of_ble_eq_true rfl) ?_
  refine ax_lv [(0, .ref (1000 + i))] ⟨rfl, trivial⟩ ?_
  refine ax_compact dJ0_coder_7d493_0 fw_J0_38 ?_
  refine ax_if_eq (tgt := 13) dJ0_coder_7d493_3 (by decide) (fun c_3 => ?_) (fun c_3 => ?_)
  · exact absurd c_3 (by decide)
  · refine ax_aload_n (i := 0) dJ0_coder_7d493_6 rfl rfl ?_
    refine ax_scod dJ0_coder_7d493_7 fw_J0_15 hi ?_
    refine ax_goto (tgt := 14) dJ0_coder_7d493_10 (by decide) ?_
    refine ax_iret dJ0_coder_7d493_14 rfl rfl (Nat.le_of_ble_eq_true rfl) (Nat.le_of_ble_eq_true rfl) ?_
    exact ⟨rfl, rfl, rfl, rfl⟩
theorem c_isLatin1 {Z : Zt} {G : Gt} {L : Lt} {i : Nat} (hi : i < 7) : AC mJ0_isLatin1_aae02 1 0 0 [.ref (1000 + i)] Z G L (RQ (.int 1) Z G L) := by
  refine AC.introF (by decide +kernel) (Nat.le_of_ble_eq_true rfl) ?_
  refine ax_lv [(0, .ref (1000 + i))] ⟨rfl, trivial⟩ ?_
  refine ax_compact dJ0_isLatin1_aae02_0 fw_J0_38 ?_
  refine ax_if_eq (tgt := 17) dJ0_isLatin1_aae02_3 (by decide) (fun c_3 => ?_) (fun c_3 => ?_)
  · exact absurd c_3 (by decide)
  · refine ax_aload_n (i := 0) dJ0_isLatin1_aae02_6 rfl rfl ?_
    refine ax_scod dJ0_isLatin1_aae02_7 fw_J0_15 hi ?_
    refine ax_if_ne (tgt := 17) dJ0_isLatin1_aae02_10 (by decide) (fun c_10 => ?_) (fun c_10 => ?_)
    · exact absurd (by decide) c_10
    · refine ax_iconst (v := 1) dJ0_isLatin1_aae02_13 (by decide) ?_
      refine ax_goto (tgt := 18) dJ0_isLatin1_aae02_14 (by decide) ?_
      refine ax_iret dJ0_isLatin1_aae02_18 rfl rfl (Nat.le_of_ble_eq_true rfl) (Nat.le_of_ble_eq_true rfl) ?_
      exact ⟨rfl, rfl, rfl, rfl⟩
theorem c_length {Z : Zt} {G : Gt} {L : Lt} {i : Nat} (hi : i < 7) : AC mJ0_length_8abf5 2 0 0 [.ref (1000 + i)] Z G L (RQ (.int (nI (sLen.getD i 0))) Z G L) := by
  refine AC.introF (by decide +kernel) (Nat.le_of_ble_eq_true rfl) ?_
  refine ax_lv [(0, .ref (1000 + i))] ⟨rfl, trivial⟩ ?_
  refine ax_aload_n (i := 0) dJ0_length_8abf5_0 rfl rfl ?_
  refine ax_sval dJ0_length_8abf5_1 fw_J0_9 hi ?_
  refine ax_slenS dJ0_length_8abf5_4 hi ?_
  refine ax_aload_n (i := 0) dJ0_length_8abf5_5 rfl rfl ?_
  refine ax_cT (i := i) dJ0_length_8abf5_6 lk_J0_335 rfl (c_coder hi) rfl hi rfl (Nat.le_of_ble_eq_true rfl) (Nat.le_of_ble_eq_true rfl) (Nat.le_of_ble_eq_true rfl) (Nat.le_of_ble_eq_true rfl) ?_
  refine ax_ishr dJ0_length_8abf5_9 ?_
  refine ax_top (congrArg Value.int (sL_s i hi)) ?_
  refine ax_iret dJ0_length_8abf5_10 rfl rfl (Nat.le_of_ble_eq_true rfl) (Nat.le_of_ble_eq_true rfl) ?_
  exact ⟨rfl, rfl, rfl, rfl⟩
theorem c_ci3n {Z : Zt} {G : Gt} {L : Lt} (a n : Nat) (hn : n < 1000) (ha : a < n) : AC mJ3_checkIndex_8e157 1 0 0 [.int (nI a), .int (nI n), .null] Z G L (RQ (.int (nI a)) Z G L) := by
  refine AC.introF (by decide +kernel) (Nat.le_of_ble_eq_true rfl) ?_
  refine ax_lv [(0, .int (nI a)), (1, .int (nI n)), (2, .null)] ⟨rfl, rfl, rfl, trivial⟩ ?_
  refine ax_iload_n (i := 0) dJ3_checkIndex_8e157_0 rfl rfl ?_
  refine ax_if_lt (tgt := 9) dJ3_checkIndex_8e157_1 (by decide) (fun c_1 => ?_) (fun c_1 => ?_)
  · exact absurd c_1 (nI_pos (by omega))
  · refine ax_iload_n (i := 0) dJ3_checkIndex_8e157_4 rfl rfl ?_
    refine ax_iload_n (i := 1) dJ3_checkIndex_8e157_5 rfl rfl ?_
    refine ax_icmp_lt (tgt := 16) dJ3_checkIndex_8e157_6 (by decide) (fun c_6 => ?_) (fun c_6 => ?_)
    · refine ax_iload_n (i := 0) dJ3_checkIndex_8e157_16 rfl rfl ?_
      refine ax_iret dJ3_checkIndex_8e157_17 rfl rfl (Nat.le_of_ble_eq_true rfl) (Nat.le_of_ble_eq_true rfl) ?_
      exact ⟨rfl, rfl, rfl, rfl⟩
    · exact absurd (nI_lt ha (by omega)) c_6
theorem c_ci3s {Z : Zt} {G : Gt} {L : Lt} (a n : Nat) (hn : n < 1000) (ha : a < n) (k : Nat) : AC mJ3_checkIndex_8e157 1 0 0 [.int (nI a), .int (nI n), .ref k] Z G L (RQ (.int (nI a)) Z G L) := by
  refine AC.introF (by decide +kernel) (Nat.le_of_ble_eq_true rfl) ?_
  refine ax_lv [(0, .int (nI a)), (1, .int (nI n)), (2, .ref k)] ⟨rfl, rfl, rfl, trivial⟩ ?_
  refine ax_iload_n (i := 0) dJ3_checkIndex_8e157_0 rfl rfl ?_
  refine ax_if_lt (tgt := 9) dJ3_checkIndex_8e157_1 (by decide) (fun c_1 => ?_) (fun c_1 => ?_)
  · exact absurd c_1 (nI_pos (by omega))
  · refine ax_iload_n (i := 0) dJ3_checkIndex_8e157_4 rfl rfl ?_
    refine ax_iload_n (i := 1) dJ3_checkIndex_8e157_5 rfl rfl ?_
    refine ax_icmp_lt (tgt := 16) dJ3_checkIndex_8e157_6 (by decide) (fun c_6 => ?_) (fun c_6 => ?_)
    · refine ax_iload_n (i := 0) dJ3_checkIndex_8e157_16 rfl rfl ?_
      refine ax_iret dJ3_checkIndex_8e157_17 rfl rfl (Nat.le_of_ble_eq_true rfl) (Nat.le_of_ble_eq_true rfl) ?_
      exact ⟨rfl, rfl, rfl, rfl⟩
    · exact absurd (nI_lt ha (by omega)) c_6
theorem c_ci0 {Z : Zt} {G : Gt} {L : Lt} (a n : Nat) (hn : n < 1000) (ha : a < n) : AC mJ0_checkIndex_df160 2 0 0 [.int (nI a), .int (nI n)] Z G L (DQ none Z G L) := by
  refine AC.introF (by decide +kernel) (Nat.le_of_ble_eq_true rfl) ?_
  refine ax_lv [(0, .int (nI a)), (1, .int (nI n))] ⟨rfl, rfl, trivial⟩ ?_
  refine ax_iload_n (i := 0) dJ0_checkIndex_df160_0 rfl rfl ?_
  refine ax_iload_n (i := 1) dJ0_checkIndex_df160_1 rfl rfl ?_
  refine ax_fmt dJ0_checkIndex_df160_2 fw_J0_1053 ?_
  intro o _
  cases o with
  | none =>
    refine ax_cSv dJ0_checkIndex_df160_5 lk_J0_1059 (c_ci3n a n hn ha) rfl rfl (Nat.le_of_ble_eq_true rfl) (Nat.le_of_ble_eq_true rfl) (Nat.le_of_ble_eq_true rfl) (Nat.le_of_ble_eq_true rfl) ?_
    refine ax_pop dJ0_checkIndex_df160_8 rfl ?_
    refine ax_vret dJ0_checkIndex_df160_9 rfl (Nat.le_of_ble_eq_true rfl) (Nat.le_of_ble_eq_true rfl) ?_
    exact ⟨rfl, rfl, rfl, rfl⟩
  | some k =>
    refine ax_cSv dJ0_checkIndex_df160_5 lk_J0_1059 (c_ci3s a n hn ha k) rfl rfl (Nat.le_of_ble_eq_true rfl) (Nat.le_of_ble_eq_true rfl) (Nat.le_of_ble_eq_true rfl) (Nat.le_of_ble_eq_true rfl) ?_
    refine ax_pop dJ0_checkIndex_df160_8 rfl ?_
    refine ax_vret dJ0_checkIndex_df160_9 rfl (Nat.le_of_ble_eq_true rfl) (Nat.le_of_ble_eq_true rfl) ?_
    exact ⟨rfl, rfl, rfl, rfl⟩
theorem c_lcharAt {Z : Zt} {G : Gt} {L : Lt} {i : Nat} (hi : i < 7) (j : Nat) (hj : j < sLen.getD i 0) : AC mJ1_charAt_3b067 3 0 0 [.ref (1100 + i), .int (nI j)] Z G L (RQ (.int (sB i j)) Z G L) := by
  refine AC.introF (by decide +kernel) (Nat.le_of_ble_eq_true rfl) ?_
  refine ax_lv [(0, .ref (1100 + i)), (1, .int (nI j))] ⟨rfl, rfl, trivial⟩ ?_
  have hl7 := sL_7 i hi
  refine ax_iload_n (i := 1) dJ1_charAt_3b067_0 rfl rfl ?_
  refine ax_aload_n (i := 0) dJ1_charAt_3b067_1 rfl rfl ?_
  refine ax_slenS dJ1_charAt_3b067_2 hi ?_
  refine ax_cS0 dJ1_charAt_3b067_3 lk_J1_9 (c_ci0 j (sLen.getD i 0) (by omega) hj) rfl rfl (Nat.le_of_ble_eq_true rfl) (Nat.le_of_ble_eq_true rfl) (Nat.le_of_ble_eq_true rfl) (Nat.le_of_ble_eq_true rfl) ?_
  refine ax_aload_n (i := 0) dJ1_charAt_3b067_6 rfl rfl ?_
  refine ax_iload_n (i := 1) dJ1_charAt_3b067_7 rfl rfl ?_
  refine ax_sbald dJ1_charAt_3b067_8 hi (vp_in_nI hj (by omega)) ?_
  rw [nI_clamp (by omega)]
  refine ax_top (w := .int (sB i j)) rfl ?_
  refine ax_sipush (v := 255) dJ1_charAt_3b067_9 (by decide) ?_
  refine ax_iand dJ1_charAt_3b067_12 ?_
  refine ax_i2c dJ1_charAt_3b067_13 ?_
  refine ax_top (congrArg Value.int (sB_c i hi j (by omega))) ?_
  refine ax_iret dJ1_charAt_3b067_14 rfl (nch_s i hi j (by omega)) (Nat.le_of_ble_eq_true rfl) (Nat.le_of_ble_eq_true rfl) ?_
  exact ⟨rfl, rfl, rfl, rfl⟩
theorem c_charAt {Z : Zt} {G : Gt} {L : Lt} {i : Nat} (hi : i < 7) (j : Nat) (hj : j < sLen.getD i 0) : AC mJ0_charAt_5068e 4 0 0 [.ref (1000 + i), .int (nI j)] Z G L (RQ (.int (sB i j)) Z G L) := by
  refine AC.introF (by decide +kernel) (Nat.le_of_ble_eq_true rfl) ?_
  refine ax_lv [(0, .ref (1000 + i)), (1, .int (nI j))] ⟨rfl, rfl, trivial⟩ ?_
  have hl7 := sL_7 i hi
  refine ax_aload_n (i := 0) dJ0_charAt_5068e_0 rfl rfl ?_
  refine ax_cT (i := i) dJ0_charAt_5068e_1 lk_J0_492 rfl (c_isLatin1 hi) rfl hi rfl (Nat.le_of_ble_eq_true rfl) (Nat.le_of_ble_eq_true rfl) (Nat.le_of_ble_eq_true rfl) (Nat.le_of_ble_eq_true rfl) ?_
  refine ax_if_eq (tgt := 16) dJ0_charAt_5068e_4 (by decide) (fun c_4 => ?_) (fun c_4 => ?_)
  · exact absurd c_4 (by decide)
  · refine ax_aload_n (i := 0) dJ0_charAt_5068e_7 rfl rfl ?_
    refine ax_sval dJ0_charAt_5068e_8 fw_J0_9 hi ?_
    refine ax_iload_n (i := 1) dJ0_charAt_5068e_11 rfl rfl ?_
    refine ax_cSv dJ0_charAt_5068e_12 lk_J0_495 (c_lcharAt hi j hj) rfl rfl (Nat.le_of_ble_eq_true rfl) (Nat.le_of_ble_eq_true rfl) (Nat.le_of_ble_eq_true rfl) (Nat.le_of_ble_eq_true rfl) ?_
    refine ax_iret dJ0_charAt_5068e_15 rfl (nch_s i hi j (by omega)) (Nat.le_of_ble_eq_true rfl) (Nat.le_of_ble_eq_true rfl) ?_
    exact ⟨rfl, rfl, rfl, rfl⟩
theorem c_canEnc {Z : Zt} {G : Gt} {L : Lt} (c : Nat) (hc : c < 128) : AC mJ1_canEncode_9a6ad 1 0 0 [.int (nI c)] Z G L (RQ (.int 1) Z G L) := by
  refine AC.introF (by decide +kernel) (Nat.le_of_ble_eq_true rfl) ?_
  refine ax_lv [(0, .int (nI c))] ⟨rfl, trivial⟩ ?_
  refine ax_iload_n (i := 0) dJ1_canEncode_9a6ad_0 rfl rfl ?_
  refine ax_if_lt (tgt := 15) dJ1_canEncode_9a6ad_1 (by decide) (fun c_1 => ?_) (fun c_1 => ?_)
  · exact absurd c_1 (nI_pos (by omega))
  · refine ax_iload_n (i := 0) dJ1_canEncode_9a6ad_4 rfl rfl ?_
    refine ax_sipush (v := 255) dJ1_canEncode_9a6ad_5 (by decide) ?_
    refine ax_icmp_gt (tgt := 15) dJ1_canEncode_9a6ad_8 (by decide) (fun c_8 => ?_) (fun c_8 => ?_)
    · exact absurd c_8 (show ¬ (255 : Int32) < nI c from nI_nlt (a := 255) (by omega) (by decide))
    · refine ax_iconst (v := 1) dJ1_canEncode_9a6ad_11 (by decide) ?_
      refine ax_goto (tgt := 16) dJ1_canEncode_9a6ad_12 (by decide) ?_
      refine ax_iret dJ1_canEncode_9a6ad_16 rfl rfl (Nat.le_of_ble_eq_true rfl) (Nat.le_of_ble_eq_true rfl) ?_
      exact ⟨rfl, rfl, rfl, rfl⟩
def r_jmax (G : Gt) (L : Lt) (a : Int32) (b : Int32) : Int32 := if a < b then b else a
theorem c_jmax {Z : Zt} {G : Gt} {L : Lt}   (a : Int32) (b : Int32)  : AC mJ9_max_7cf53 1 0 0 [.int a, .int b] Z G L (DQ (some (.int (r_jmax G L a b))) Z G L) := by
  refine AC.introF (by decide +kernel) (Nat.le_of_ble_eq_true rfl) ?_
  refine ax_lv [(0, .int a), (1, .int b)] ⟨rfl, rfl, trivial⟩ ?_
  refine ax_iload_n (i := 0) dJ9_max_7cf53_0 rfl rfl ?_
  refine ax_iload_n (i := 1) dJ9_max_7cf53_1 rfl rfl ?_
  refine ax_icmp_lt (tgt := 9) dJ9_max_7cf53_2 (by decide) (fun c_2 => ?_) (fun c_2 => ?_)
  · refine ax_iload_n (i := 1) dJ9_max_7cf53_9 rfl rfl ?_
    refine ax_iret dJ9_max_7cf53_10 rfl rfl (Nat.le_of_ble_eq_true rfl) (Nat.le_of_ble_eq_true rfl) ?_
    exact ⟨congrArg (fun z => some (Value.int z)) (Eq.symm (by unfold r_jmax; (try rw [if_pos c_2]); first | done | rfl)), rfl, rfl, rfl⟩
  · refine ax_iload_n (i := 0) dJ9_max_7cf53_5 rfl rfl ?_
    refine ax_goto (tgt := 10) dJ9_max_7cf53_6 (by decide) ?_
    refine ax_iret dJ9_max_7cf53_10 rfl rfl (Nat.le_of_ble_eq_true rfl) (Nat.le_of_ble_eq_true rfl) ?_
    exact ⟨congrArg (fun z => some (Value.int z)) (Eq.symm (by unfold r_jmax; (try rw [if_neg c_2]); first | done | rfl)), rfl, rfl, rfl⟩
def r_jmin (G : Gt) (L : Lt) (a : Int32) (b : Int32) : Int32 := if b < a then b else a
theorem c_jmin {Z : Zt} {G : Gt} {L : Lt}   (a : Int32) (b : Int32)  : AC mJ9_min_7cf53 1 0 0 [.int a, .int b] Z G L (DQ (some (.int (r_jmin G L a b))) Z G L) := by
  refine AC.introF (by decide +kernel) (Nat.le_of_ble_eq_true rfl) ?_
  refine ax_lv [(0, .int a), (1, .int b)] ⟨rfl, rfl, trivial⟩ ?_
  refine ax_iload_n (i := 0) dJ9_min_7cf53_0 rfl rfl ?_
  refine ax_iload_n (i := 1) dJ9_min_7cf53_1 rfl rfl ?_
  refine ax_icmp_gt (tgt := 9) dJ9_min_7cf53_2 (by decide) (fun c_2 => ?_) (fun c_2 => ?_)
  · refine ax_iload_n (i := 1) dJ9_min_7cf53_9 rfl rfl ?_
    refine ax_iret dJ9_min_7cf53_10 rfl rfl (Nat.le_of_ble_eq_true rfl) (Nat.le_of_ble_eq_true rfl) ?_
    exact ⟨congrArg (fun z => some (Value.int z)) (Eq.symm (by unfold r_jmin; (try rw [if_pos c_2]); first | done | rfl)), rfl, rfl, rfl⟩
  · refine ax_iload_n (i := 0) dJ9_min_7cf53_5 rfl rfl ?_
    refine ax_goto (tgt := 10) dJ9_min_7cf53_6 (by decide) ?_
    refine ax_iret dJ9_min_7cf53_10 rfl rfl (Nat.le_of_ble_eq_true rfl) (Nat.le_of_ble_eq_true rfl) ?_
    exact ⟨congrArg (fun z => some (Value.int z)) (Eq.symm (by unfold r_jmin; (try rw [if_neg c_2]); first | done | rfl)), rfl, rfl, rfl⟩
theorem l_idxC {Z : Zt} {G : Gt} {L : Lt} {i : Nat} (hi : i < 7) (c : Nat) (hc : c < 128) (x : Int32) : ∀ (r j : Nat), j + r = sLen.getD i 0 → x = fsS i c r j → AX none mJ1_indexOfChar_4cfef 1 0 0 0 0 7 [(0, .ref (1100 + i)), (3, .int (nI (sLen.getD i 0))), (4, .int (nI c)), (5, .int (nI j))] [] Z G L (RQ (.int x) Z G L) := by
  have hl7 := sL_7 i hi
  intro r
  induction r with
  | zero =>
    intro j h1 hend
    refine ax_iload dJ1_indexOfChar_4cfef_7 rfl ?_
    refine ax_iload_n (i := 3) dJ1_indexOfChar_4cfef_9 rfl rfl ?_
    refine ax_icmp_ge (tgt := 31) dJ1_indexOfChar_4cfef_10 (by decide) (fun c_10 => ?_) (fun c_10 => ?_)
    · refine ax_iconst (v := (-1)) dJ1_indexOfChar_4cfef_31 (by decide) ?_
      refine ax_iret dJ1_indexOfChar_4cfef_32 rfl rfl (Nat.le_of_ble_eq_true rfl) (Nat.le_of_ble_eq_true rfl) ?_
      exact ⟨congrArg (fun z => some (Value.int z)) hend.symm, rfl, rfl, rfl⟩
    · exact absurd (by rw [show j = sLen.getD i 0 by omega]; exact Int32.le_refl _) c_10
  | succ r ih =>
    intro j h1 hend
    refine ax_iload dJ1_indexOfChar_4cfef_7 rfl ?_
    refine ax_iload_n (i := 3) dJ1_indexOfChar_4cfef_9 rfl rfl ?_
    refine ax_icmp_ge (tgt := 31) dJ1_indexOfChar_4cfef_10 (by decide) (fun c_10 => ?_) (fun c_10 => ?_)
    · exact absurd c_10 (nI_ge (show j < sLen.getD i 0 by omega) (by omega))
    · refine ax_aload_n (i := 0) dJ1_indexOfChar_4cfef_13 rfl rfl ?_
      refine ax_iload dJ1_indexOfChar_4cfef_14 rfl ?_
      refine ax_sbald dJ1_indexOfChar_4cfef_16 hi (vp_in_nI (show j < sLen.getD i 0 by omega) (by omega)) ?_
      rw [nI_clamp (by omega)]
      refine ax_top (w := .int (sB i j)) rfl ?_
      refine ax_iload dJ1_indexOfChar_4cfef_17 rfl ?_
      refine ax_icmp_ne (tgt := 25) dJ1_indexOfChar_4cfef_19 (by decide) (fun c_19 => ?_) (fun c_19 => ?_)
      · refine ax_iinc (v := (nI j) + 1) dJ1_indexOfChar_4cfef_25 rfl rfl (by decide) rfl ?_
        refine ax_goto (tgt := 7) dJ1_indexOfChar_4cfef_28 (by decide) ?_
        refine ax_lv [(0, .ref (1100 + i)), (3, .int (nI (sLen.getD i 0))), (4, .int (nI c)), (5, .int (nI (j + 1)))] ⟨rfl, rfl, rfl, sI (nI_1 j), trivial⟩ ?_
        exact ih (j + 1) (by omega) (hend.trans (by rw [fsS, if_neg c_19]))
      · refine ax_iload dJ1_indexOfChar_4cfef_22 rfl ?_
        refine ax_iret dJ1_indexOfChar_4cfef_24 rfl rfl (Nat.le_of_ble_eq_true rfl) (Nat.le_of_ble_eq_true rfl) ?_
        exact ⟨congrArg (fun z => some (Value.int z)) (hend.trans (by rw [fsS, if_pos c_19])).symm, rfl, rfl, rfl⟩
theorem c_idxC {Z : Zt} {G : Gt} {L : Lt} {i : Nat} (hi : i < 7) (c : Nat) (hc : c < 128) : AC mJ1_indexOfChar_4cfef 1 0 0 [.ref (1100 + i), .int (nI c), .int 0, .int (nI (sLen.getD i 0))] Z G L (RQ (.int (fsS i c (sLen.getD i 0) 0)) Z G L) := by
  refine AC.introF (by decide +kernel) (Nat.le_of_ble_eq_true rfl) ?_
  refine ax_lv [(0, .ref (1100 + i)), (1, .int (nI c)), (2, .int 0), (3, .int (nI (sLen.getD i 0)))] ⟨rfl, rfl, rfl, rfl, trivial⟩ ?_
  refine ax_iload_n (i := 1) dJ1_indexOfChar_4cfef_0 rfl rfl ?_
  refine ax_i2b dJ1_indexOfChar_4cfef_1 ?_
  refine ax_top (congrArg Value.int (by_c c hc)) ?_
  refine ax_istore dJ1_indexOfChar_4cfef_2 (by decide) rfl ?_
  refine ax_iload_n (i := 2) dJ1_indexOfChar_4cfef_4 rfl rfl ?_
  refine ax_istore dJ1_indexOfChar_4cfef_5 (by decide) rfl ?_
  refine ax_lv [(0, .ref (1100 + i)), (3, .int (nI (sLen.getD i 0))), (4, .int (nI c)), (5, .int (nI 0))] ⟨rfl, rfl, rfl, rfl, trivial⟩ ?_
  exact l_idxC hi c hc _ (sLen.getD i 0) 0 (by omega) rfl
theorem c_idx1 {Z : Zt} {G : Gt} {L : Lt} {i : Nat} (hi : i < 7) (c : Nat) (hc : c < 128) : AC mJ1_indexOf_4cfef 2 0 0 [.ref (1100 + i), .int (nI c), .int 0, .int (nI (sLen.getD i 0))] Z G L (RQ (.int (fsS i c (sLen.getD i 0) 0)) Z G L) := by
  refine AC.introF (by decide +kernel) (Nat.le_of_ble_eq_true rfl) ?_
  refine ax_lv [(0, .ref (1100 + i)), (1, .int (nI c)), (2, .int 0), (3, .int (nI (sLen.getD i 0)))] ⟨rfl, rfl, rfl, rfl, trivial⟩ ?_
  have hl7 := sL_7 i hi
  refine ax_iload_n (i := 1) dJ1_indexOf_4cfef_0 rfl rfl ?_
  refine ax_cSv dJ1_indexOf_4cfef_1 lk_J1_88 (c_canEnc c hc) rfl rfl (Nat.le_of_ble_eq_true rfl) (Nat.le_of_ble_eq_true rfl) (Nat.le_of_ble_eq_true rfl) (Nat.le_of_ble_eq_true rfl) ?_
  refine ax_if_ne (tgt := 9) dJ1_indexOf_4cfef_4 (by decide) (fun c_4 => ?_) (fun c_4 => ?_)
  · refine ax_iload_n (i := 2) dJ1_indexOf_4cfef_9 rfl rfl ?_
    refine ax_iconst (v := 0) dJ1_indexOf_4cfef_10 (by decide) ?_
    refine ax_cSv dJ1_indexOf_4cfef_11 lk_J1_92 (c_jmax 0 0) rfl rfl (Nat.le_of_ble_eq_true rfl) (Nat.le_of_ble_eq_true rfl) (Nat.le_of_ble_eq_true rfl) (Nat.le_of_ble_eq_true rfl) ?_
    refine ax_top (w := .int 0) (congrArg Value.int (by unfold r_jmax; first | rfl | decide)) ?_
    refine ax_istore_n (i := 2) dJ1_indexOf_4cfef_14 rfl (by decide) rfl ?_
    refine ax_iload_n (i := 3) dJ1_indexOf_4cfef_15 rfl rfl ?_
    refine ax_aload_n (i := 0) dJ1_indexOf_4cfef_16 rfl rfl ?_
    refine ax_slenS dJ1_indexOf_4cfef_17 hi ?_
    refine ax_cSv dJ1_indexOf_4cfef_18 lk_J1_38 (c_jmin (nI (sLen.getD i 0)) (nI (sLen.getD i 0))) rfl rfl (Nat.le_of_ble_eq_true rfl) (Nat.le_of_ble_eq_true rfl) (Nat.le_of_ble_eq_true rfl) (Nat.le_of_ble_eq_true rfl) ?_
    refine ax_top (w := .int (nI (sLen.getD i 0))) (congrArg Value.int (by unfold r_jmin; split <;> rfl)) ?_
    refine ax_istore_n (i := 3) dJ1_indexOf_4cfef_21 rfl (by decide) rfl ?_
    refine ax_iload_n (i := 2) dJ1_indexOf_4cfef_22 rfl rfl ?_
    refine ax_iload_n (i := 3) dJ1_indexOf_4cfef_23 rfl rfl ?_
    refine ax_icmp_lt (tgt := 29) dJ1_indexOf_4cfef_24 (by decide) (fun c_24 => ?_) (fun c_24 => ?_)
    · refine ax_aload_n (i := 0) dJ1_indexOf_4cfef_29 rfl rfl ?_
      refine ax_iload_n (i := 1) dJ1_indexOf_4cfef_30 rfl rfl ?_
      refine ax_iload_n (i := 2) dJ1_indexOf_4cfef_31 rfl rfl ?_
      refine ax_iload_n (i := 3) dJ1_indexOf_4cfef_32 rfl rfl ?_
      refine ax_cSv dJ1_indexOf_4cfef_33 lk_J1_95 (c_idxC hi c hc) rfl rfl (Nat.le_of_ble_eq_true rfl) (Nat.le_of_ble_eq_true rfl) (Nat.le_of_ble_eq_true rfl) (Nat.le_of_ble_eq_true rfl) ?_
      refine ax_iret dJ1_indexOf_4cfef_36 rfl rfl (Nat.le_of_ble_eq_true rfl) (Nat.le_of_ble_eq_true rfl) ?_
      exact ⟨rfl, rfl, rfl, rfl⟩
    · exact absurd (show (0 : Int32) < nI (sLen.getD i 0) from nI_lt (a := 0) hl7.2 (by omega)) c_24
  · exact absurd c_4 (by decide)
theorem c_idx2 {Z : Zt} {G : Gt} {L : Lt} {i : Nat} (hi : i < 7) (c : Nat) (hc : c < 128) : AC mJ0_indexOf_7cf53 3 0 0 [.ref (1000 + i), .int (nI c), .int 0] Z G L (RQ (.int (fsS i c (sLen.getD i 0) 0)) Z G L) := by
  refine AC.introF (by decide +kernel) (Nat.le_of_ble_eq_true rfl) ?_
  refine ax_lv [(0, .ref (1000 + i)), (1, .int (nI c)), (2, .int 0)] ⟨rfl, rfl, rfl, trivial⟩ ?_
  refine ax_aload_n (i := 0) dJ0_indexOf_7cf53_0 rfl rfl ?_
  refine ax_cT (i := i) dJ0_indexOf_7cf53_1 lk_J0_492 rfl (c_isLatin1 hi) rfl hi rfl (Nat.le_of_ble_eq_true rfl) (Nat.le_of_ble_eq_true rfl) (Nat.le_of_ble_eq_true rfl) (Nat.le_of_ble_eq_true rfl) ?_
  refine ax_if_eq (tgt := 23) dJ0_indexOf_7cf53_4 (by decide) (fun c_4 => ?_) (fun c_4 => ?_)
  · exact absurd c_4 (by decide)
  · refine ax_aload_n (i := 0) dJ0_indexOf_7cf53_7 rfl rfl ?_
    refine ax_sval dJ0_indexOf_7cf53_8 fw_J0_9 hi ?_
    refine ax_iload_n (i := 1) dJ0_indexOf_7cf53_11 rfl rfl ?_
    refine ax_iload_n (i := 2) dJ0_indexOf_7cf53_12 rfl rfl ?_
    refine ax_aload_n (i := 0) dJ0_indexOf_7cf53_13 rfl rfl ?_
    refine ax_cT (i := i) dJ0_indexOf_7cf53_14 lk_J0_505 rfl (c_length hi) rfl hi rfl (Nat.le_of_ble_eq_true rfl) (Nat.le_of_ble_eq_true rfl) (Nat.le_of_ble_eq_true rfl) (Nat.le_of_ble_eq_true rfl) ?_
    refine ax_cSv dJ0_indexOf_7cf53_17 lk_J0_637 (c_idx1 hi c hc) rfl rfl (Nat.le_of_ble_eq_true rfl) (Nat.le_of_ble_eq_true rfl) (Nat.le_of_ble_eq_true rfl) (Nat.le_of_ble_eq_true rfl) ?_
    refine ax_goto (tgt := 36) dJ0_indexOf_7cf53_20 (by decide) ?_
    refine ax_iret dJ0_indexOf_7cf53_36 rfl rfl (Nat.le_of_ble_eq_true rfl) (Nat.le_of_ble_eq_true rfl) ?_
    exact ⟨rfl, rfl, rfl, rfl⟩
theorem c_indexOf {Z : Zt} {G : Gt} {L : Lt} {i : Nat} (hi : i < 7) (c : Nat) (hc : c < 128) : AC mJ0_indexOf_0f7a4 4 0 0 [.ref (1000 + i), .int (nI c)] Z G L (RQ (.int (fsS i c (sLen.getD i 0) 0)) Z G L) := by
  refine AC.introF (by decide +kernel) (Nat.le_of_ble_eq_true rfl) ?_
  refine ax_lv [(0, .ref (1000 + i)), (1, .int (nI c))] ⟨rfl, rfl, trivial⟩ ?_
  refine ax_aload_n (i := 0) dJ0_indexOf_0f7a4_0 rfl rfl ?_
  refine ax_iload_n (i := 1) dJ0_indexOf_0f7a4_1 rfl rfl ?_
  refine ax_iconst (v := 0) dJ0_indexOf_0f7a4_2 (by decide) ?_
  refine ax_cT (i := i) dJ0_indexOf_0f7a4_3 lk_J0_633 rfl (c_idx2 hi c hc) rfl hi rfl (Nat.le_of_ble_eq_true rfl) (Nat.le_of_ble_eq_true rfl) (Nat.le_of_ble_eq_true rfl) (Nat.le_of_ble_eq_true rfl) ?_
  refine ax_iret dJ0_indexOf_0f7a4_6 rfl rfl (Nat.le_of_ble_eq_true rfl) (Nat.le_of_ble_eq_true rfl) ?_
  exact ⟨rfl, rfl, rfl, rfl⟩
