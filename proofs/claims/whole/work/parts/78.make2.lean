-- ===== the constructors: the model; the start =====
def rfA : List (Nat × Nat × Nat) := ((0, 9, 84) :: (84, 0, 85) :: (84, 1, 86) :: (84, 2, 87) :: (84, 3, 88) :: (84, 4, 89) :: (84, 5, 90) :: (0, 8, 83) :: (0, 7, 82) :: (0, 6, 81) :: (0, 5, 79) :: (79, 0, 80) :: (0, 4, 76) :: (76, 2, 78) :: (76, 0, 77) :: (0, 2, 51) :: (51, 10, 75) :: (51, 9, 74) :: (51, 8, 73) :: (51, 7, 72) :: (51, 6, 71) :: (51, 5, 70) :: (51, 4, 69) :: (51, 3, 68) :: (51, 2, 67) :: (51, 1, 60) :: (60, 0, 61) :: (60, 1, 62) :: (60, 2, 63) :: (60, 3, 64) :: (60, 4, 65) :: (60, 5, 66) :: (51, 0, 52) :: (52, 6, 59) :: (52, 5, 58) :: (52, 4, 57) :: (52, 3, 56) :: (52, 2, 55) :: (52, 1, 54) :: (52, 0, 53) :: (0, 1, 26) :: (26, 10, 50) :: (26, 9, 49) :: (26, 8, 48) :: (26, 7, 47) :: (26, 6, 46) :: (26, 5, 45) :: (26, 4, 44) :: (26, 3, 43) :: (26, 2, 42) :: (26, 1, 35) :: (35, 0, 36) :: (35, 1, 37) :: (35, 2, 38) :: (35, 3, 39) :: (35, 4, 40) :: (35, 5, 41) :: (26, 0, 27) :: (27, 6, 34) :: (27, 5, 33) :: (27, 4, 32) :: (27, 3, 31) :: (27, 2, 30) :: (27, 1, 29) :: (27, 0, 28) :: (0, 0, 1) :: (1, 10, 25) :: (1, 9, 24) :: (1, 8, 23) :: (1, 7, 22) :: (1, 6, 21) :: (1, 5, 20) :: (1, 4, 19) :: (1, 3, 18) :: (1, 2, 17) :: (1, 1, 10) :: (10, 0, 11) :: (10, 1, 12) :: (10, 2, 13) :: (10, 3, 14) :: (10, 4, 15) :: (10, 5, 16) :: (1, 0, 2) :: (2, 6, 9) :: (2, 5, 8) :: (2, 4, 7) :: (2, 3, 6) :: (2, 2, 5) :: (2, 1, 4) :: (2, 0, 3) :: [])
def rfB : List (Nat × Nat × Nat) := ((91, 48, 123) :: (91, 47, 122) :: (91, 46, 121) :: (91, 43, 120) :: (91, 42, 119) :: (91, 41, 118) :: (91, 40, 117) :: (91, 38, 116) :: (91, 36, 115) :: (91, 35, 114) :: (91, 33, 113) :: (91, 32, 112) :: (91, 30, 111) :: (91, 29, 110) :: (91, 28, 109) :: (91, 26, 108) :: (91, 24, 107) :: (91, 23, 106) :: (91, 22, 105) :: (91, 21, 104) :: (91, 20, 103) :: (91, 19, 102) :: (91, 12, 101) :: (91, 9, 100) :: (91, 8, 99) :: (91, 7, 98) :: (91, 6, 97) :: (91, 5, 96) :: (91, 4, 95) :: (91, 3, 94) :: (91, 1, 93) :: (91, 0, 92) :: (0, 9, 84) :: (84, 0, 85) :: (84, 1, 86) :: (84, 2, 87) :: (84, 3, 88) :: (84, 4, 89) :: (84, 5, 90) :: (0, 8, 83) :: (0, 7, 82) :: (0, 6, 81) :: (0, 5, 79) :: (79, 0, 80) :: (0, 4, 76) :: (76, 2, 78) :: (76, 0, 77) :: (0, 2, 51) :: (51, 10, 75) :: (51, 9, 74) :: (51, 8, 73) :: (51, 7, 72) :: (51, 6, 71) :: (51, 5, 70) :: (51, 4, 69) :: (51, 3, 68) :: (51, 2, 67) :: (51, 1, 60) :: (60, 0, 61) :: (60, 1, 62) :: (60, 2, 63) :: (60, 3, 64) :: (60, 4, 65) :: (60, 5, 66) :: (51, 0, 52) :: (52, 6, 59) :: (52, 5, 58) :: (52, 4, 57) :: (52, 3, 56) :: (52, 2, 55) :: (52, 1, 54) :: (52, 0, 53) :: (0, 1, 26) :: (26, 10, 50) :: (26, 9, 49) :: (26, 8, 48) :: (26, 7, 47) :: (26, 6, 46) :: (26, 5, 45) :: (26, 4, 44) :: (26, 3, 43) :: (26, 2, 42) :: (26, 1, 35) :: (35, 0, 36) :: (35, 1, 37) :: (35, 2, 38) :: (35, 3, 39) :: (35, 4, 40) :: (35, 5, 41) :: (26, 0, 27) :: (27, 6, 34) :: (27, 5, 33) :: (27, 4, 32) :: (27, 3, 31) :: (27, 2, 30) :: (27, 1, 29) :: (27, 0, 28) :: (0, 0, 1) :: (1, 10, 25) :: (1, 9, 24) :: (1, 8, 23) :: (1, 7, 22) :: (1, 6, 21) :: (1, 5, 20) :: (1, 4, 19) :: (1, 3, 18) :: (1, 2, 17) :: (1, 1, 10) :: (10, 0, 11) :: (10, 1, 12) :: (10, 2, 13) :: (10, 3, 14) :: (10, 4, 15) :: (10, 5, 16) :: (1, 0, 2) :: (2, 6, 9) :: (2, 5, 8) :: (2, 4, 7) :: (2, 3, 6) :: (2, 2, 5) :: (2, 1, 4) :: (2, 0, 3) :: [])
def GA : Gt := (up2 (up2 (up2 (up2 (up2 (up2 G00 82 0 (-1)) 82 1 (-1)) 82 2 (-1)) 82 3 (-1)) 82 4 (-1)) 82 5 (-1))
def GB : Gt := (up2 (up2 (up2 (up2 (up2 (up2 (up2 GA 91 18 (-1)) 121 0 (-1)) 121 1 (-1)) 121 2 (-1)) 121 3 (-1)) 121 4 (-1)) 121 5 (-1))
theorem i_X12 : AC mX12_init 1 32 2027 [.ref 91] (Zc 92 ((0, 9, 84) :: (84, 0, 85) :: (84, 1, 86) :: (84, 2, 87) :: (84, 3, 88) :: (84, 4, 89) :: (84, 5, 90) :: (0, 8, 83) :: (0, 7, 82) :: (0, 6, 81) :: (0, 5, 79) :: (79, 0, 80) :: (0, 4, 76) :: (76, 2, 78) :: (76, 0, 77) :: (0, 2, 51) :: (51, 10, 75) :: (51, 9, 74) :: (51, 8, 73) :: (51, 7, 72) :: (51, 6, 71) :: (51, 5, 70) :: (51, 4, 69) :: (51, 3, 68) :: (51, 2, 67) :: (51, 1, 60) :: (60, 0, 61) :: (60, 1, 62) :: (60, 2, 63) :: (60, 3, 64) :: (60, 4, 65) :: (60, 5, 66) :: (51, 0, 52) :: (52, 6, 59) :: (52, 5, 58) :: (52, 4, 57) :: (52, 3, 56) :: (52, 2, 55) :: (52, 1, 54) :: (52, 0, 53) :: (0, 1, 26) :: (26, 10, 50) :: (26, 9, 49) :: (26, 8, 48) :: (26, 7, 47) :: (26, 6, 46) :: (26, 5, 45) :: (26, 4, 44) :: (26, 3, 43) :: (26, 2, 42) :: (26, 1, 35) :: (35, 0, 36) :: (35, 1, 37) :: (35, 2, 38) :: (35, 3, 39) :: (35, 4, 40) :: (35, 5, 41) :: (26, 0, 27) :: (27, 6, 34) :: (27, 5, 33) :: (27, 4, 32) :: (27, 3, 31) :: (27, 2, 30) :: (27, 1, 29) :: (27, 0, 28) :: (0, 0, 1) :: (1, 10, 25) :: (1, 9, 24) :: (1, 8, 23) :: (1, 7, 22) :: (1, 6, 21) :: (1, 5, 20) :: (1, 4, 19) :: (1, 3, 18) :: (1, 2, 17) :: (1, 1, 10) :: (10, 0, 11) :: (10, 1, 12) :: (10, 2, 13) :: (10, 3, 14) :: (10, 4, 15) :: (10, 5, 16) :: (1, 0, 2) :: (2, 6, 9) :: (2, 5, 8) :: (2, 4, 7) :: (2, 3, 6) :: (2, 2, 5) :: (2, 1, 4) :: (2, 0, 3) :: [])) (up2 (up2 (up2 (up2 (up2 (up2 G00 82 0 (-1)) 82 1 (-1)) 82 2 (-1)) 82 3 (-1)) 82 4 (-1)) 82 5 (-1)) L00 (DQ none (Zc 124 ((91, 48, 123) :: (91, 47, 122) :: (91, 46, 121) :: (91, 43, 120) :: (91, 42, 119) :: (91, 41, 118) :: (91, 40, 117) :: (91, 38, 116) :: (91, 36, 115) :: (91, 35, 114) :: (91, 33, 113) :: (91, 32, 112) :: (91, 30, 111) :: (91, 29, 110) :: (91, 28, 109) :: (91, 26, 108) :: (91, 24, 107) :: (91, 23, 106) :: (91, 22, 105) :: (91, 21, 104) :: (91, 20, 103) :: (91, 19, 102) :: (91, 12, 101) :: (91, 9, 100) :: (91, 8, 99) :: (91, 7, 98) :: (91, 6, 97) :: (91, 5, 96) :: (91, 4, 95) :: (91, 3, 94) :: (91, 1, 93) :: (91, 0, 92) :: (0, 9, 84) :: (84, 0, 85) :: (84, 1, 86) :: (84, 2, 87) :: (84, 3, 88) :: (84, 4, 89) :: (84, 5, 90) :: (0, 8, 83) :: (0, 7, 82) :: (0, 6, 81) :: (0, 5, 79) :: (79, 0, 80) :: (0, 4, 76) :: (76, 2, 78) :: (76, 0, 77) :: (0, 2, 51) :: (51, 10, 75) :: (51, 9, 74) :: (51, 8, 73) :: (51, 7, 72) :: (51, 6, 71) :: (51, 5, 70) :: (51, 4, 69) :: (51, 3, 68) :: (51, 2, 67) :: (51, 1, 60) :: (60, 0, 61) :: (60, 1, 62) :: (60, 2, 63) :: (60, 3, 64) :: (60, 4, 65) :: (60, 5, 66) :: (51, 0, 52) :: (52, 6, 59) :: (52, 5, 58) :: (52, 4, 57) :: (52, 3, 56) :: (52, 2, 55) :: (52, 1, 54) :: (52, 0, 53) :: (0, 1, 26) :: (26, 10, 50) :: (26, 9, 49) :: (26, 8, 48) :: (26, 7, 47) :: (26, 6, 46) :: (26, 5, 45) :: (26, 4, 44) :: (26, 3, 43) :: (26, 2, 42) :: (26, 1, 35) :: (35, 0, 36) :: (35, 1, 37) :: (35, 2, 38) :: (35, 3, 39) :: (35, 4, 40) :: (35, 5, 41) :: (26, 0, 27) :: (27, 6, 34) :: (27, 5, 33) :: (27, 4, 32) :: (27, 3, 31) :: (27, 2, 30) :: (27, 1, 29) :: (27, 0, 28) :: (0, 0, 1) :: (1, 10, 25) :: (1, 9, 24) :: (1, 8, 23) :: (1, 7, 22) :: (1, 6, 21) :: (1, 5, 20) :: (1, 4, 19) :: (1, 3, 18) :: (1, 2, 17) :: (1, 1, 10) :: (10, 0, 11) :: (10, 1, 12) :: (10, 2, 13) :: (10, 3, 14) :: (10, 4, 15) :: (10, 5, 16) :: (1, 0, 2) :: (2, 6, 9) :: (2, 5, 8) :: (2, 4, 7) :: (2, 3, 6) :: (2, 2, 5) :: (2, 1, 4) :: (2, 0, 3) :: [])) (up2 (up2 (up2 (up2 (up2 (up2 (up2 (up2 (up2 (up2 (up2 (up2 (up2 G00 82 0 (-1)) 82 1 (-1)) 82 2 (-1)) 82 3 (-1)) 82 4 (-1)) 82 5 (-1)) 91 18 (-1)) 121 0 (-1)) 121 1 (-1)) 121 2 (-1)) 121 3 (-1)) 121 4 (-1)) 121 5 (-1)) L00) := by
  refine AC.intro (by decide +kernel) (Nat.le_of_ble_eq_true rfl) ?_
  refine ax_lv [(0, .ref 91)] ⟨rfl, trivial⟩ ?_
  refine ax_aload_n (i := 0) dX12_init_0 rfl rfl ?_
  refine ax_objI dX12_init_1 lo_X12_3 oi_inst oi_code (Nat.le_of_ble_eq_true rfl) (Nat.le_of_ble_eq_true rfl) ?_
  refine ax_aload_n (i := 0) dX12_init_4 rfl rfl ?_
  refine ax_iconst (v := 4) dX12_init_5 (by decide) ?_
  refine ax_na (n := 92) (n2 := 93) (N' := 4) (t0 := 0) dX12_init_6 rfl (Or.inl rfl) (fun _ => rfl) aw_int rfl (by decide) (by decide) rfl (by decide) (by decide) (by decide) rfl (by decide +kernel) (fun _ => rfl) (fun _ => rfl) ?_
  refine ax_pr dX12_init_8 fl_X12_9 (Or.inr ⟨fp_X12_12_0, rfl⟩) rfl (by decide) (by decide) rfl ?_
  refine ax_aload_n (i := 0) dX12_init_11 rfl rfl ?_
  refine ax_iconst (v := 4) dX12_init_12 (by decide) ?_
  refine ax_na (n := 93) (n2 := 94) (N' := 4) (t0 := 0) dX12_init_13 rfl (Or.inl rfl) (fun _ => rfl) aw_int rfl (by decide) (by decide) rfl (by decide) (by decide) (by decide) rfl (by decide +kernel) (fun _ => rfl) (fun _ => rfl) ?_
  refine ax_pr dX12_init_15 fl_X12_15 (Or.inr ⟨fp_X12_12_1, rfl⟩) rfl (by decide) (by decide) rfl ?_
  refine ax_aload_n (i := 0) dX12_init_18 rfl rfl ?_
  refine ax_bipush (v := 6) dX12_init_19 (by decide) ?_
  refine ax_na (n := 94) (n2 := 95) (N' := 6) (t0 := 0) dX12_init_21 rfl (Or.inl rfl) (fun _ => rfl) aw_int rfl (by decide) (by decide) rfl (by decide) (by decide) (by decide) rfl (by decide +kernel) (fun _ => rfl) (fun _ => rfl) ?_
  refine ax_pr dX12_init_23 fl_X12_18 (Or.inr ⟨fp_X12_12_3, rfl⟩) rfl (by decide) (by decide) rfl ?_
  refine ax_aload_n (i := 0) dX12_init_26 rfl rfl ?_
  refine ax_bipush (v := 6) dX12_init_27 (by decide) ?_
  refine ax_na (n := 95) (n2 := 96) (N' := 6) (t0 := 0) dX12_init_29 rfl (Or.inl rfl) (fun _ => rfl) aw_int rfl (by decide) (by decide) rfl (by decide) (by decide) (by decide) rfl (by decide +kernel) (fun _ => rfl) (fun _ => rfl) ?_
  refine ax_pr dX12_init_31 fl_X12_21 (Or.inr ⟨fp_X12_12_4, rfl⟩) rfl (by decide) (by decide) rfl ?_
  refine ax_aload_n (i := 0) dX12_init_34 rfl rfl ?_
  refine ax_bipush (v := 6) dX12_init_35 (by decide) ?_
  refine ax_na (n := 96) (n2 := 97) (N' := 6) (t0 := 0) dX12_init_37 rfl (Or.inl rfl) (fun _ => rfl) aw_int rfl (by decide) (by decide) rfl (by decide) (by decide) (by decide) rfl (by decide +kernel) (fun _ => rfl) (fun _ => rfl) ?_
  refine ax_pr dX12_init_39 fl_X12_24 (Or.inr ⟨fp_X12_12_5, rfl⟩) rfl (by decide) (by decide) rfl ?_
  refine ax_aload_n (i := 0) dX12_init_42 rfl rfl ?_
  refine ax_bipush (v := 6) dX12_init_43 (by decide) ?_
  refine ax_na (n := 97) (n2 := 98) (N' := 6) (t0 := 0) dX12_init_45 rfl (Or.inl rfl) (fun _ => rfl) aw_int rfl (by decide) (by decide) rfl (by decide) (by decide) (by decide) rfl (by decide +kernel) (fun _ => rfl) (fun _ => rfl) ?_
  refine ax_pr dX12_init_47 fl_X12_27 (Or.inr ⟨fp_X12_12_6, rfl⟩) rfl (by decide) (by decide) rfl ?_
  refine ax_aload_n (i := 0) dX12_init_50 rfl rfl ?_
  refine ax_bipush (v := 6) dX12_init_51 (by decide) ?_
  refine ax_na (n := 98) (n2 := 99) (N' := 6) (t0 := 0) dX12_init_53 rfl (Or.inl rfl) (fun _ => rfl) aw_int rfl (by decide) (by decide) rfl (by decide) (by decide) (by decide) rfl (by decide +kernel) (fun _ => rfl) (fun _ => rfl) ?_
  refine ax_pr dX12_init_55 fl_X12_30 (Or.inr ⟨fp_X12_12_7, rfl⟩) rfl (by decide) (by decide) rfl ?_
  refine ax_aload_n (i := 0) dX12_init_58 rfl rfl ?_
  refine ax_bipush (v := 6) dX12_init_59 (by decide) ?_
  refine ax_na (n := 99) (n2 := 100) (N' := 6) (t0 := 0) dX12_init_61 rfl (Or.inl rfl) (fun _ => rfl) aw_int rfl (by decide) (by decide) rfl (by decide) (by decide) (by decide) rfl (by decide +kernel) (fun _ => rfl) (fun _ => rfl) ?_
  refine ax_pr dX12_init_63 fl_X12_33 (Or.inr ⟨fp_X12_12_8, rfl⟩) rfl (by decide) (by decide) rfl ?_
  refine ax_aload_n (i := 0) dX12_init_66 rfl rfl ?_
  refine ax_bipush (v := 24) dX12_init_67 (by decide) ?_
  refine ax_na (n := 100) (n2 := 101) (N' := 24) (t0 := 0) dX12_init_69 rfl (Or.inl rfl) (fun _ => rfl) aw_int rfl (by decide) (by decide) rfl (by decide) (by decide) (by decide) rfl (by decide +kernel) (fun _ => rfl) (fun _ => rfl) ?_
  refine ax_pr dX12_init_71 fl_X12_36 (Or.inr ⟨fp_X12_12_9, rfl⟩) rfl (by decide) (by decide) rfl ?_
  refine ax_aload_n (i := 0) dX12_init_74 rfl rfl ?_
  refine ax_bipush (v := 100) dX12_init_75 (by decide) ?_
  refine ax_na (n := 101) (n2 := 102) (N' := 100) (t0 := 0) dX12_init_77 rfl (Or.inl rfl) (fun _ => rfl) aw_int rfl (by decide) (by decide) rfl (by decide) (by decide) (by decide) rfl (by decide +kernel) (fun _ => rfl) (fun _ => rfl) ?_
  refine ax_pr dX12_init_79 fl_X12_39 (Or.inr ⟨fp_X12_12_12, rfl⟩) rfl (by decide) (by decide) rfl ?_
  refine ax_aload_n (i := 0) dX12_init_82 rfl rfl ?_
  refine ax_bipush (v := 6) dX12_init_83 (by decide) ?_
  refine ax_na (n := 102) (n2 := 103) (N' := 6) (t0 := 0) dX12_init_85 rfl (Or.inl rfl) (fun _ => rfl) aw_int rfl (by decide) (by decide) rfl (by decide) (by decide) (by decide) rfl (by decide +kernel) (fun _ => rfl) (fun _ => rfl) ?_
  refine ax_pr dX12_init_87 fl_X12_42 (Or.inr ⟨fp_X12_12_19, rfl⟩) rfl (by decide) (by decide) rfl ?_
  refine ax_aload_n (i := 0) dX12_init_90 rfl rfl ?_
  refine ax_bipush (v := 61) dX12_init_91 (by decide) ?_
  refine ax_na (n := 103) (n2 := 104) (N' := 61) (t0 := 0) dX12_init_93 rfl (Or.inl rfl) (fun _ => rfl) aw_int rfl (by decide) (by decide) rfl (by decide) (by decide) (by decide) rfl (by decide +kernel) (fun _ => rfl) (fun _ => rfl) ?_
  refine ax_pr dX12_init_95 fl_X12_45 (Or.inr ⟨fp_X12_12_20, rfl⟩) rfl (by decide) (by decide) rfl ?_
  refine ax_aload_n (i := 0) dX12_init_98 rfl rfl ?_
  refine ax_bipush (v := 61) dX12_init_99 (by decide) ?_
  refine ax_na (n := 104) (n2 := 105) (N' := 61) (t0 := 0) dX12_init_101 rfl (Or.inl rfl) (fun _ => rfl) aw_int rfl (by decide) (by decide) rfl (by decide) (by decide) (by decide) rfl (by decide +kernel) (fun _ => rfl) (fun _ => rfl) ?_
  refine ax_pr dX12_init_103 fl_X12_48 (Or.inr ⟨fp_X12_12_21, rfl⟩) rfl (by decide) (by decide) rfl ?_
  refine ax_aload_n (i := 0) dX12_init_106 rfl rfl ?_
  refine ax_bipush (v := 61) dX12_init_107 (by decide) ?_
  refine ax_na (n := 105) (n2 := 106) (N' := 61) (t0 := 0) dX12_init_109 rfl (Or.inl rfl) (fun _ => rfl) aw_int rfl (by decide) (by decide) rfl (by decide) (by decide) (by decide) rfl (by decide +kernel) (fun _ => rfl) (fun _ => rfl) ?_
  refine ax_pr dX12_init_111 fl_X12_51 (Or.inr ⟨fp_X12_12_22, rfl⟩) rfl (by decide) (by decide) rfl ?_
  refine ax_aload_n (i := 0) dX12_init_114 rfl rfl ?_
  refine ax_bipush (v := 61) dX12_init_115 (by decide) ?_
  refine ax_na (n := 106) (n2 := 107) (N' := 61) (t0 := 0) dX12_init_117 rfl (Or.inl rfl) (fun _ => rfl) aw_int rfl (by decide) (by decide) rfl (by decide) (by decide) (by decide) rfl (by decide +kernel) (fun _ => rfl) (fun _ => rfl) ?_
  refine ax_pr dX12_init_119 fl_X12_54 (Or.inr ⟨fp_X12_12_23, rfl⟩) rfl (by decide) (by decide) rfl ?_
  refine ax_aload_n (i := 0) dX12_init_122 rfl rfl ?_
  refine ax_sipush (v := 800) dX12_init_123 (by decide) ?_
  refine ax_na (n := 107) (n2 := 108) (N' := 800) (t0 := 0) dX12_init_126 rfl (Or.inl rfl) (fun _ => rfl) aw_int rfl (by decide) (by decide) rfl (by decide) (by decide) (by decide) rfl (by decide +kernel) (fun _ => rfl) (fun _ => rfl) ?_
  refine ax_pr dX12_init_128 fl_X12_57 (Or.inr ⟨fp_X12_12_24, rfl⟩) rfl (by decide) (by decide) rfl ?_
  refine ax_aload_n (i := 0) dX12_init_131 rfl rfl ?_
  refine ax_bipush (v := 110) dX12_init_132 (by decide) ?_
  refine ax_na (n := 108) (n2 := 109) (N' := 110) (t0 := 3) dX12_init_134 rfl (Or.inl rfl) (fun _ => rfl) aw_boolean rfl (by decide) (by decide) rfl (by decide) (by decide) (by decide) rfl (by decide +kernel) (fun _ => rfl) (fun _ => rfl) ?_
  refine ax_pr dX12_init_136 fl_X12_60 (Or.inr ⟨fp_X12_12_26, rfl⟩) rfl (by decide) (by decide) rfl ?_
  refine ax_aload_n (i := 0) dX12_init_139 rfl rfl ?_
  refine ax_iconst (v := 5) dX12_init_140 (by decide) ?_
  refine ax_na (n := 109) (n2 := 110) (N' := 5) (t0 := 0) dX12_init_141 rfl (Or.inl rfl) (fun _ => rfl) aw_int rfl (by decide) (by decide) rfl (by decide) (by decide) (by decide) rfl (by decide +kernel) (fun _ => rfl) (fun _ => rfl) ?_
  refine ax_pr dX12_init_143 fl_X12_64 (Or.inr ⟨fp_X12_12_28, rfl⟩) rfl (by decide) (by decide) rfl ?_
  refine ax_aload_n (i := 0) dX12_init_146 rfl rfl ?_
  refine ax_iconst (v := 5) dX12_init_147 (by decide) ?_
  refine ax_na (n := 110) (n2 := 111) (N' := 5) (t0 := 0) dX12_init_148 rfl (Or.inl rfl) (fun _ => rfl) aw_int rfl (by decide) (by decide) rfl (by decide) (by decide) (by decide) rfl (by decide +kernel) (fun _ => rfl) (fun _ => rfl) ?_
  refine ax_pr dX12_init_150 fl_X12_67 (Or.inr ⟨fp_X12_12_29, rfl⟩) rfl (by decide) (by decide) rfl ?_
  refine ax_aload_n (i := 0) dX12_init_153 rfl rfl ?_
  refine ax_iconst (v := 5) dX12_init_154 (by decide) ?_
  refine ax_na (n := 111) (n2 := 112) (N' := 5) (t0 := 0) dX12_init_155 rfl (Or.inl rfl) (fun _ => rfl) aw_int rfl (by decide) (by decide) rfl (by decide) (by decide) (by decide) rfl (by decide +kernel) (fun _ => rfl) (fun _ => rfl) ?_
  refine ax_pr dX12_init_157 fl_X12_70 (Or.inr ⟨fp_X12_12_30, rfl⟩) rfl (by decide) (by decide) rfl ?_
  refine ax_aload_n (i := 0) dX12_init_160 rfl rfl ?_
  refine ax_bipush (v := 10) dX12_init_161 (by decide) ?_
  refine ax_na (n := 112) (n2 := 113) (N' := 10) (t0 := 0) dX12_init_163 rfl (Or.inl rfl) (fun _ => rfl) aw_int rfl (by decide) (by decide) rfl (by decide) (by decide) (by decide) rfl (by decide +kernel) (fun _ => rfl) (fun _ => rfl) ?_
  refine ax_pr dX12_init_165 fl_X12_73 (Or.inr ⟨fp_X12_12_32, rfl⟩) rfl (by decide) (by decide) rfl ?_
  refine ax_aload_n (i := 0) dX12_init_168 rfl rfl ?_
  refine ax_bipush (v := 10) dX12_init_169 (by decide) ?_
  refine ax_na (n := 113) (n2 := 114) (N' := 10) (t0 := 0) dX12_init_171 rfl (Or.inl rfl) (fun _ => rfl) aw_int rfl (by decide) (by decide) rfl (by decide) (by decide) (by decide) rfl (by decide +kernel) (fun _ => rfl) (fun _ => rfl) ?_
  refine ax_pr dX12_init_173 fl_X12_76 (Or.inr ⟨fp_X12_12_33, rfl⟩) rfl (by decide) (by decide) rfl ?_
  refine ax_aload_n (i := 0) dX12_init_176 rfl rfl ?_
  refine ax_bipush (v := 8) dX12_init_177 (by decide) ?_
  refine ax_na (n := 114) (n2 := 115) (N' := 8) (t0 := 0) dX12_init_179 rfl (Or.inl rfl) (fun _ => rfl) aw_int rfl (by decide) (by decide) rfl (by decide) (by decide) (by decide) rfl (by decide +kernel) (fun _ => rfl) (fun _ => rfl) ?_
  refine ax_pr dX12_init_181 fl_X12_79 (Or.inr ⟨fp_X12_12_35, rfl⟩) rfl (by decide) (by decide) rfl ?_
  refine ax_aload_n (i := 0) dX12_init_184 rfl rfl ?_
  refine ax_bipush (v := 8) dX12_init_185 (by decide) ?_
  refine ax_na (n := 115) (n2 := 116) (N' := 8) (t0 := 0) dX12_init_187 rfl (Or.inl rfl) (fun _ => rfl) aw_int rfl (by decide) (by decide) rfl (by decide) (by decide) (by decide) rfl (by decide +kernel) (fun _ => rfl) (fun _ => rfl) ?_
  refine ax_pr dX12_init_189 fl_X12_82 (Or.inr ⟨fp_X12_12_36, rfl⟩) rfl (by decide) (by decide) rfl ?_
  refine ax_aload_n (i := 0) dX12_init_192 rfl rfl ?_
  refine ax_bipush (v := 20) dX12_init_193 (by decide) ?_
  refine ax_na (n := 116) (n2 := 117) (N' := 20) (t0 := 0) dX12_init_195 rfl (Or.inl rfl) (fun _ => rfl) aw_int rfl (by decide) (by decide) rfl (by decide) (by decide) (by decide) rfl (by decide +kernel) (fun _ => rfl) (fun _ => rfl) ?_
  refine ax_pr dX12_init_197 fl_X12_85 (Or.inr ⟨fp_X12_12_38, rfl⟩) rfl (by decide) (by decide) rfl ?_
  refine ax_aload_n (i := 0) dX12_init_200 rfl rfl ?_
  refine ax_bipush (v := 125) dX12_init_201 (by decide) ?_
  refine ax_na (n := 117) (n2 := 118) (N' := 125) (t0 := 0) dX12_init_203 rfl (Or.inl rfl) (fun _ => rfl) aw_int rfl (by decide) (by decide) rfl (by decide) (by decide) (by decide) rfl (by decide +kernel) (fun _ => rfl) (fun _ => rfl) ?_
  refine ax_pr dX12_init_205 fl_X12_88 (Or.inr ⟨fp_X12_12_40, rfl⟩) rfl (by decide) (by decide) rfl ?_
  refine ax_aload_n (i := 0) dX12_init_208 rfl rfl ?_
  refine ax_bipush (v := 125) dX12_init_209 (by decide) ?_
  refine ax_na (n := 118) (n2 := 119) (N' := 125) (t0 := 0) dX12_init_211 rfl (Or.inl rfl) (fun _ => rfl) aw_int rfl (by decide) (by decide) rfl (by decide) (by decide) (by decide) rfl (by decide +kernel) (fun _ => rfl) (fun _ => rfl) ?_
  refine ax_pr dX12_init_213 fl_X12_91 (Or.inr ⟨fp_X12_12_41, rfl⟩) rfl (by decide) (by decide) rfl ?_
  refine ax_aload_n (i := 0) dX12_init_216 rfl rfl ?_
  refine ax_iconst (v := 3) dX12_init_217 (by decide) ?_
  refine ax_na (n := 119) (n2 := 120) (N' := 3) (t0 := 0) dX12_init_218 rfl (Or.inl rfl) (fun _ => rfl) aw_int rfl (by decide) (by decide) rfl (by decide) (by decide) (by decide) rfl (by decide +kernel) (fun _ => rfl) (fun _ => rfl) ?_
  refine ax_pr dX12_init_220 fl_X12_94 (Or.inr ⟨fp_X12_12_42, rfl⟩) rfl (by decide) (by decide) rfl ?_
  refine ax_aload_n (i := 0) dX12_init_223 rfl rfl ?_
  refine ax_iconst (v := 3) dX12_init_224 (by decide) ?_
  refine ax_na (n := 120) (n2 := 121) (N' := 3) (t0 := 0) dX12_init_225 rfl (Or.inl rfl) (fun _ => rfl) aw_int rfl (by decide) (by decide) rfl (by decide) (by decide) (by decide) rfl (by decide +kernel) (fun _ => rfl) (fun _ => rfl) ?_
  refine ax_pr dX12_init_227 fl_X12_97 (Or.inr ⟨fp_X12_12_43, rfl⟩) rfl (by decide) (by decide) rfl ?_
  refine ax_aload_n (i := 0) dX12_init_230 rfl rfl ?_
  refine ax_bipush (v := 6) dX12_init_231 (by decide) ?_
  refine ax_na (n := 121) (n2 := 122) (N' := 6) (t0 := 0) dX12_init_233 rfl (Or.inl rfl) (fun _ => rfl) aw_int rfl (by decide) (by decide) rfl (by decide) (by decide) (by decide) rfl (by decide +kernel) (fun _ => rfl) (fun _ => rfl) ?_
  refine ax_pr dX12_init_235 fl_X12_100 (Or.inr ⟨fp_X12_12_46, rfl⟩) rfl (by decide) (by decide) rfl ?_
  refine ax_aload_n (i := 0) dX12_init_238 rfl rfl ?_
  refine ax_bipush (v := 6) dX12_init_239 (by decide) ?_
  refine ax_na (n := 122) (n2 := 123) (N' := 6) (t0 := 0) dX12_init_241 rfl (Or.inl rfl) (fun _ => rfl) aw_int rfl (by decide) (by decide) rfl (by decide) (by decide) (by decide) rfl (by decide +kernel) (fun _ => rfl) (fun _ => rfl) ?_
  refine ax_pr dX12_init_243 fl_X12_103 (Or.inr ⟨fp_X12_12_47, rfl⟩) rfl (by decide) (by decide) rfl ?_
  refine ax_aload_n (i := 0) dX12_init_246 rfl rfl ?_
  refine ax_sipush (v := 360) dX12_init_247 (by decide) ?_
  refine ax_na (n := 123) (n2 := 124) (N' := 360) (t0 := 1) dX12_init_250 rfl (Or.inr rfl) (fun _ => rfl) aw_long rfl (by decide) (by decide) rfl (by decide) (by decide) (by decide) rfl (by decide +kernel) (fun _ => rfl) (fun _ => rfl) ?_
  refine ax_pr dX12_init_252 fl_X12_106 (Or.inr ⟨fp_X12_12_48, rfl⟩) rfl (by decide) (by decide) rfl ?_
  refine ax_aload_n (i := 0) dX12_init_255 rfl rfl ?_
  refine ax_iconst (v := (-1)) dX12_init_256 (by decide) ?_
  refine ax_putI dX12_init_257 fl_X12_110 (Or.inl fp_X12_12_18) rfl rfl rfl (Zc_s (by decide) rfl) ?_
  refine ax_iconst (v := 0) dX12_init_260 (by decide) ?_
  refine ax_istore_n (i := 1) dX12_init_261 rfl (by decide) rfl ?_
  refine ax_iload_n (i := 1) dX12_init_262 rfl rfl ?_
  refine ax_bipush (v := 6) dX12_init_263 (by decide) ?_
  refine ax_icmp_ge (tgt := 281) dX12_init_265 (by decide) (fun c => absurd c (by decide)) (fun _ => ?_)
  refine ax_aload_n (i := 0) dX12_init_268 rfl rfl ?_
  refine ax_getR dX12_init_269 fl_X12_100 rfl (Zc_s (by decide) rfl) (show r9 _ 91 46 = some 121 from rfl) ?_
  refine ax_iload_n (i := 1) dX12_init_272 rfl rfl ?_
  refine ax_iconst (v := (-1)) dX12_init_273 (by decide) ?_
  refine ax_iastN 0 dX12_init_274 (Zc_s (by decide) rfl) rfl (by decide) (by decide) ?_
  refine ax_iinc (v := 1) dX12_init_275 rfl rfl (by decide) rfl ?_
  refine ax_goto (tgt := 262) dX12_init_278 (by decide) ?_
  refine ax_iload_n (i := 1) dX12_init_262 rfl rfl ?_
  refine ax_bipush (v := 6) dX12_init_263 (by decide) ?_
  refine ax_icmp_ge (tgt := 281) dX12_init_265 (by decide) (fun c => absurd c (by decide)) (fun _ => ?_)
  refine ax_aload_n (i := 0) dX12_init_268 rfl rfl ?_
  refine ax_getR dX12_init_269 fl_X12_100 rfl (Zc_s (by decide) rfl) (show r9 _ 91 46 = some 121 from rfl) ?_
  refine ax_iload_n (i := 1) dX12_init_272 rfl rfl ?_
  refine ax_iconst (v := (-1)) dX12_init_273 (by decide) ?_
  refine ax_iastN 1 dX12_init_274 (Zc_s (by decide) rfl) rfl (by decide) (by decide) ?_
  refine ax_iinc (v := 2) dX12_init_275 rfl rfl (by decide) rfl ?_
  refine ax_goto (tgt := 262) dX12_init_278 (by decide) ?_
  refine ax_iload_n (i := 1) dX12_init_262 rfl rfl ?_
  refine ax_bipush (v := 6) dX12_init_263 (by decide) ?_
  refine ax_icmp_ge (tgt := 281) dX12_init_265 (by decide) (fun c => absurd c (by decide)) (fun _ => ?_)
  refine ax_aload_n (i := 0) dX12_init_268 rfl rfl ?_
  refine ax_getR dX12_init_269 fl_X12_100 rfl (Zc_s (by decide) rfl) (show r9 _ 91 46 = some 121 from rfl) ?_
  refine ax_iload_n (i := 1) dX12_init_272 rfl rfl ?_
  refine ax_iconst (v := (-1)) dX12_init_273 (by decide) ?_
  refine ax_iastN 2 dX12_init_274 (Zc_s (by decide) rfl) rfl (by decide) (by decide) ?_
  refine ax_iinc (v := 3) dX12_init_275 rfl rfl (by decide) rfl ?_
  refine ax_goto (tgt := 262) dX12_init_278 (by decide) ?_
  refine ax_iload_n (i := 1) dX12_init_262 rfl rfl ?_
  refine ax_bipush (v := 6) dX12_init_263 (by decide) ?_
  refine ax_icmp_ge (tgt := 281) dX12_init_265 (by decide) (fun c => absurd c (by decide)) (fun _ => ?_)
  refine ax_aload_n (i := 0) dX12_init_268 rfl rfl ?_
  refine ax_getR dX12_init_269 fl_X12_100 rfl (Zc_s (by decide) rfl) (show r9 _ 91 46 = some 121 from rfl) ?_
  refine ax_iload_n (i := 1) dX12_init_272 rfl rfl ?_
  refine ax_iconst (v := (-1)) dX12_init_273 (by decide) ?_
  refine ax_iastN 3 dX12_init_274 (Zc_s (by decide) rfl) rfl (by decide) (by decide) ?_
  refine ax_iinc (v := 4) dX12_init_275 rfl rfl (by decide) rfl ?_
  refine ax_goto (tgt := 262) dX12_init_278 (by decide) ?_
  refine ax_iload_n (i := 1) dX12_init_262 rfl rfl ?_
  refine ax_bipush (v := 6) dX12_init_263 (by decide) ?_
  refine ax_icmp_ge (tgt := 281) dX12_init_265 (by decide) (fun c => absurd c (by decide)) (fun _ => ?_)
  refine ax_aload_n (i := 0) dX12_init_268 rfl rfl ?_
  refine ax_getR dX12_init_269 fl_X12_100 rfl (Zc_s (by decide) rfl) (show r9 _ 91 46 = some 121 from rfl) ?_
  refine ax_iload_n (i := 1) dX12_init_272 rfl rfl ?_
  refine ax_iconst (v := (-1)) dX12_init_273 (by decide) ?_
  refine ax_iastN 4 dX12_init_274 (Zc_s (by decide) rfl) rfl (by decide) (by decide) ?_
  refine ax_iinc (v := 5) dX12_init_275 rfl rfl (by decide) rfl ?_
  refine ax_goto (tgt := 262) dX12_init_278 (by decide) ?_
  refine ax_iload_n (i := 1) dX12_init_262 rfl rfl ?_
  refine ax_bipush (v := 6) dX12_init_263 (by decide) ?_
  refine ax_icmp_ge (tgt := 281) dX12_init_265 (by decide) (fun c => absurd c (by decide)) (fun _ => ?_)
  refine ax_aload_n (i := 0) dX12_init_268 rfl rfl ?_
  refine ax_getR dX12_init_269 fl_X12_100 rfl (Zc_s (by decide) rfl) (show r9 _ 91 46 = some 121 from rfl) ?_
  refine ax_iload_n (i := 1) dX12_init_272 rfl rfl ?_
  refine ax_iconst (v := (-1)) dX12_init_273 (by decide) ?_
  refine ax_iastN 5 dX12_init_274 (Zc_s (by decide) rfl) rfl (by decide) (by decide) ?_
  refine ax_iinc (v := 6) dX12_init_275 rfl rfl (by decide) rfl ?_
  refine ax_goto (tgt := 262) dX12_init_278 (by decide) ?_
  refine ax_iload_n (i := 1) dX12_init_262 rfl rfl ?_
  refine ax_bipush (v := 6) dX12_init_263 (by decide) ?_
  refine ax_icmp_ge (tgt := 281) dX12_init_265 (by decide) (fun _ => ?_) (fun c => absurd (by decide) c)
  refine ax_vret dX12_init_281 rfl (by decide) (by decide) ?_
  exact ⟨rfl, rfl, rfl, rfl⟩
/-- from the order of making to the numbers, and back -/
def TAUl : List Nat := 0 :: 24 :: 16 :: 17 :: 18 :: 19 :: 20 :: 21 :: 22 :: 23 :: 25 :: 26 :: 27 :: 28 :: 29 :: 30 :: 31 :: 32 :: 33 :: 34 :: 35 :: 36 :: 37 :: 38 :: 39 :: 40 :: 41 :: 108 :: 109 :: 110 :: 111 :: 112 :: 113 :: 114 :: 115 :: 42 :: 43 :: 44 :: 45 :: 46 :: 47 :: 48 :: 49 :: 50 :: 51 :: 52 :: 53 :: 54 :: 55 :: 56 :: 57 :: 58 :: 116 :: 117 :: 118 :: 119 :: 120 :: 121 :: 122 :: 123 :: 59 :: 60 :: 61 :: 62 :: 63 :: 64 :: 65 :: 66 :: 67 :: 68 :: 69 :: 70 :: 71 :: 72 :: 73 :: 74 :: 1 :: 2 :: 3 :: 4 :: 5 :: 6 :: 7 :: 8 :: 9 :: 10 :: 11 :: 12 :: 13 :: 14 :: 15 :: 75 :: 76 :: 77 :: 78 :: 79 :: 80 :: 81 :: 82 :: 83 :: 84 :: 85 :: 86 :: 87 :: 88 :: 89 :: 90 :: 91 :: 92 :: 93 :: 94 :: 95 :: 96 :: 97 :: 98 :: 99 :: 100 :: 101 :: 102 :: 103 :: 104 :: 105 :: 106 :: 107 :: []
def SIGl : List Nat := 0 :: 76 :: 77 :: 78 :: 79 :: 80 :: 81 :: 82 :: 83 :: 84 :: 85 :: 86 :: 87 :: 88 :: 89 :: 90 :: 2 :: 3 :: 4 :: 5 :: 6 :: 7 :: 8 :: 9 :: 1 :: 10 :: 11 :: 12 :: 13 :: 14 :: 15 :: 16 :: 17 :: 18 :: 19 :: 20 :: 21 :: 22 :: 23 :: 24 :: 25 :: 26 :: 35 :: 36 :: 37 :: 38 :: 39 :: 40 :: 41 :: 42 :: 43 :: 44 :: 45 :: 46 :: 47 :: 48 :: 49 :: 50 :: 51 :: 60 :: 61 :: 62 :: 63 :: 64 :: 65 :: 66 :: 67 :: 68 :: 69 :: 70 :: 71 :: 72 :: 73 :: 74 :: 75 :: 91 :: 92 :: 93 :: 94 :: 95 :: 96 :: 97 :: 98 :: 99 :: 100 :: 101 :: 102 :: 103 :: 104 :: 105 :: 106 :: 107 :: 108 :: 109 :: 110 :: 111 :: 112 :: 113 :: 114 :: 115 :: 116 :: 117 :: 118 :: 119 :: 120 :: 121 :: 122 :: 123 :: 27 :: 28 :: 29 :: 30 :: 31 :: 32 :: 33 :: 34 :: 52 :: 53 :: 54 :: 55 :: 56 :: 57 :: 58 :: 59 :: []
def tu (k : Nat) : Nat := TAUl.getD k k
def sg (k : Nat) : Nat := SIGl.getD k k
theorem sg_ok : ∀ k, k < 124 → sg k < 124 ∧ tu (sg k) = k := by decide +kernel
theorem tu_ok : ∀ k, k < 124 → tu k < 124 ∧ sg (tu k) = k := by decide +kernel
theorem sg_o : ∀ k, 124 ≤ k → sg k = k := fun k h => by
  unfold sg
  rw [List.getD_eq_getElem?_getD, List.getElem?_eq_none (show SIGl.length ≤ k from h)]
  rfl
def ZB : Zt := rnZ sg tu (Zc 124 rfB)
def GR : Gt := fun k => GB (sg k)
theorem shp_ok : ∀ k, k < 124 → SH1 (sg k) = SH0 k := by decide +kernel
theorem rf_ok : ∀ k, k < 124 → ∀ i, i < 49 → RF0 k i = none ∨ (r9 rfB (sg k) i).map tu = RF0 k i := by decide +kernel
theorem rf_no : ∀ k, k < 124 → (RFl.getD k []).length ≤ 49 := by decide +kernel
theorem ZB_OK : OK ZB := by
  refine ⟨fun k x h => ?_, fun k i j h => ?_, Nat.le_refl _⟩
  · have hk := SH0_lt h
    show (if sg k < 124 then SH1 (sg k) else none) = some x
    rw [if_pos (sg_ok k hk).1, shp_ok k hk]; exact h
  have hk := RF0_lt h
  rcases Nat.lt_or_ge i 49 with q | q
  · rcases rf_ok k hk i q with z | z
    · rw [z] at h; cases h
    · exact z.trans h
  · unfold RF0 at h
    rw [List.getD_eq_getElem?_getD, List.getElem?_eq_none (Nat.le_trans (rf_no k hk) q)] at h
    cases h
def W00 : Wv := mkW 0 0 (fun _ _ => 0) (fun _ => 0) (fun _ => 0) (fun _ _ _ => 0) 2
def H00 : Hv := ((0, fun _ => 0, fun _ => 0, fun _ => 0), (0, fun _ => 0, fun _ => 0), (0, fun _ => 0, fun _ => 0))
def T00 : Nat × (Nat → Nat) := (0, fun _ => 0)
def R00 : Nat × (Nat → Int32) := (0, fun _ => 0)
def P00 : Pt9 := (fun _ => -1, fun _ => 0, fun _ _ => 0)
theorem no_l {P : Nat → Prop} : ∀ k, k < 0 → P k := fun k h => absurd h (Nat.not_lt_zero k)
theorem rf_h : ZB.2.2 24 16 = none := by decide +kernel
theorem GB_7 : ∀ t, t < 6 → GR 7 t = -1 := by decide +kernel
theorem GB_105 : ∀ t, t < 6 → GR 105 t = -1 := by decide +kernel
theorem sg_ne : ∀ a, a < 124 → a = 7 ∨ a = 75 ∨ a = 105 ∨ (sg a ≠ 82 ∧ sg a ≠ 91 ∧ sg a ≠ 121) := by decide +kernel
theorem GB_0 : ∀ a, a < 108 → a ≠ 7 → a ≠ 75 → a ≠ 105 → ∀ i, GR a i = 0 := by
  intro a h0 h1 h2 h3 i
  obtain ⟨e1, e2, e3⟩ := (((sg_ne a (by omega)).resolve_left h1).resolve_left h2).resolve_left h3
  unfold GR GB GA G00
  simp only [up2_k e1, up2_k e2, up2_k e3]
theorem GB_75 : ∀ i, i ≠ 18 → GR 75 i = 0 := by
  intro i hi
  have e : sg 75 = 91 := by decide +kernel
  show GB (sg 75) i = 0
  rw [e]
  unfold GB GA G00
  simp only [up2_k (show 91 ≠ 82 by decide), up2_k (show 91 ≠ 121 by decide), up2_i hi]
theorem GB_18 : GR 75 18 = -1 := by decide +kernel
theorem IC_0 : IC ZB GR L00 W00 H00 none T00 R00 P00 0 := by
  have g : ∀ a, a < 75 → a ≠ 7 → ∀ i, GR a i = 0 := fun a h1 h2 i => GB_0 a (by omega) h2 (by omega) (by omega) i
  have hs : ZB.2.2 24 16 = none := rf_h
  refine ⟨ZB_OK, ⟨⟨g 24 (by decide) (by decide) _, g 24 (by decide) (by decide) _, fun p hp => absurd hp (Nat.not_lt_zero p), fun q hq => g _ (by decide) (by decide) _, fun q hq => g _ (by decide) (by decide) _, ?_, ?_, ?_⟩, ⟨by decide, by decide, fun p hp => absurd hp (Nat.not_lt_zero p), fun p hp => absurd hp (Nat.not_lt_zero p), fun q hq => ⟨0, by decide, rfl⟩⟩, by decide⟩, ⟨⟨⟨g 24 (by decide) (by decide) _, no_l⟩, ⟨g 24 (by decide) (by decide) _, no_l⟩, ⟨g 24 (by decide) (by decide) _, no_l⟩⟩, ⟨by decide, no_l, by decide, no_l, by decide, no_l⟩⟩, g 0 (by decide) (by decide) _, ⟨Nat.zero_le _, g 1 (by decide) (by decide) _, no_l⟩, ⟨Nat.zero_le _, g 4 (by decide) (by decide) _, fun i _ h => absurd h (Nat.not_lt_zero i)⟩, fun t ht => ⟨GB_7 t ht, Or.inl rfl, g 8 (by decide) (by decide) _, Nat.zero_le _, fun _ => rfl, fun i _ => rfl⟩, Nat.zero_le _, g 0 (by decide) (by decide) _, rfl⟩
  · rw [hs]; exact fun k hk => absurd hk (by simp)
  · rw [hs]; rfl
  · intro p row mi; rw [hs]; rfl
theorem IM_0 : IM GR L00 W00 H00 none T00 R00 P00 0 := by
  have g : ∀ a, 75 < a → a < 108 → a ≠ 105 → ∀ i, GR a i = 0 := fun a h1 h2 h3 i => GB_0 a h2 (by omega) (by omega) h3 i
  refine ⟨⟨GB_75 _ (by decide), GB_75 _ (by decide), fun p hp => absurd hp (Nat.not_lt_zero p), fun q hq => g _ (by decide) (by decide) (by decide) _, fun q hq => g _ (by decide) (by decide) (by decide) _, ?_⟩, ⟨⟨GB_75 _ (by decide), no_l⟩, ⟨GB_75 _ (by decide), no_l⟩, ⟨GB_75 _ (by decide), no_l⟩⟩, GB_75 _ (by decide), ⟨GB_75 _ (by decide), no_l⟩, ⟨GB_75 _ (by decide), fun i _ h => absurd h (Nat.not_lt_zero i)⟩, fun t ht => ⟨GB_105 t ht, g 106 (by decide) (by decide) (by decide) _, fun i _ => rfl⟩, GB_75 _ (by decide), 0, Nat.le_refl _, GB_75 _ (by decide)⟩
  rw [GB_18]
  refine ⟨Or.inl rfl, ?_, fun p row mi => ?_⟩
  · unfold drO; rw [if_pos rfl]; rfl
  · unfold smO; rw [if_pos rfl]; rfl
