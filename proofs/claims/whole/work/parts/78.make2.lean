-- ===== the constructors: the model; the start =====
def rfA : List (Nat × Nat × Nat) := ((0, 2, 58) :: (58, 0, 16) :: (58, 10, 74) :: (58, 9, 73) :: (58, 8, 72) :: (58, 7, 71) :: (58, 6, 70) :: (58, 5, 69) :: (58, 4, 68) :: (58, 3, 67) :: (58, 2, 66) :: (58, 1, 59) :: (59, 0, 60) :: (59, 1, 61) :: (59, 2, 62) :: (59, 3, 63) :: (59, 4, 64) :: (59, 5, 65) :: (0, 1, 41) :: (41, 0, 16) :: (41, 10, 57) :: (41, 9, 56) :: (41, 8, 55) :: (41, 7, 54) :: (41, 6, 53) :: (41, 5, 52) :: (41, 4, 51) :: (41, 3, 50) :: (41, 2, 49) :: (41, 1, 42) :: (42, 0, 43) :: (42, 1, 44) :: (42, 2, 45) :: (42, 3, 46) :: (42, 4, 47) :: (42, 5, 48) :: (0, 0, 24) :: (24, 0, 16) :: (24, 10, 40) :: (24, 9, 39) :: (24, 8, 38) :: (24, 7, 37) :: (24, 6, 36) :: (24, 5, 35) :: (24, 4, 34) :: (24, 3, 33) :: (24, 2, 32) :: (24, 1, 25) :: (25, 0, 26) :: (25, 1, 27) :: (25, 2, 28) :: (25, 3, 29) :: (25, 4, 30) :: (25, 5, 31) :: (0, 3, 16) :: (16, 6, 23) :: (16, 5, 22) :: (16, 4, 21) :: (16, 3, 20) :: (16, 2, 19) :: (16, 1, 18) :: (16, 0, 17) :: (0, 9, 9) :: (9, 0, 10) :: (9, 1, 11) :: (9, 2, 12) :: (9, 3, 13) :: (9, 4, 14) :: (9, 5, 15) :: (0, 8, 8) :: (0, 7, 7) :: (0, 6, 6) :: (0, 5, 4) :: (4, 0, 5) :: (0, 4, 1) :: (1, 2, 3) :: (1, 0, 2) :: [])
def rfB : List (Nat × Nat × Nat) := ((75, 48, 107) :: (75, 47, 106) :: (75, 46, 105) :: (75, 43, 104) :: (75, 42, 103) :: (75, 41, 102) :: (75, 40, 101) :: (75, 38, 100) :: (75, 36, 99) :: (75, 35, 98) :: (75, 33, 97) :: (75, 32, 96) :: (75, 30, 95) :: (75, 29, 94) :: (75, 28, 93) :: (75, 26, 92) :: (75, 24, 91) :: (75, 23, 90) :: (75, 22, 89) :: (75, 21, 88) :: (75, 20, 87) :: (75, 19, 86) :: (75, 12, 85) :: (75, 9, 84) :: (75, 8, 83) :: (75, 7, 82) :: (75, 6, 81) :: (75, 5, 80) :: (75, 4, 79) :: (75, 3, 78) :: (75, 1, 77) :: (75, 0, 76) :: (0, 2, 58) :: (58, 0, 16) :: (58, 10, 74) :: (58, 9, 73) :: (58, 8, 72) :: (58, 7, 71) :: (58, 6, 70) :: (58, 5, 69) :: (58, 4, 68) :: (58, 3, 67) :: (58, 2, 66) :: (58, 1, 59) :: (59, 0, 60) :: (59, 1, 61) :: (59, 2, 62) :: (59, 3, 63) :: (59, 4, 64) :: (59, 5, 65) :: (0, 1, 41) :: (41, 0, 16) :: (41, 10, 57) :: (41, 9, 56) :: (41, 8, 55) :: (41, 7, 54) :: (41, 6, 53) :: (41, 5, 52) :: (41, 4, 51) :: (41, 3, 50) :: (41, 2, 49) :: (41, 1, 42) :: (42, 0, 43) :: (42, 1, 44) :: (42, 2, 45) :: (42, 3, 46) :: (42, 4, 47) :: (42, 5, 48) :: (0, 0, 24) :: (24, 0, 16) :: (24, 10, 40) :: (24, 9, 39) :: (24, 8, 38) :: (24, 7, 37) :: (24, 6, 36) :: (24, 5, 35) :: (24, 4, 34) :: (24, 3, 33) :: (24, 2, 32) :: (24, 1, 25) :: (25, 0, 26) :: (25, 1, 27) :: (25, 2, 28) :: (25, 3, 29) :: (25, 4, 30) :: (25, 5, 31) :: (0, 3, 16) :: (16, 6, 23) :: (16, 5, 22) :: (16, 4, 21) :: (16, 3, 20) :: (16, 2, 19) :: (16, 1, 18) :: (16, 0, 17) :: (0, 9, 9) :: (9, 0, 10) :: (9, 1, 11) :: (9, 2, 12) :: (9, 3, 13) :: (9, 4, 14) :: (9, 5, 15) :: (0, 8, 8) :: (0, 7, 7) :: (0, 6, 6) :: (0, 5, 4) :: (4, 0, 5) :: (0, 4, 1) :: (1, 2, 3) :: (1, 0, 2) :: [])
def GA : Gt := (up2 (up2 (up2 (up2 (up2 (up2 G00 7 0 (-1)) 7 1 (-1)) 7 2 (-1)) 7 3 (-1)) 7 4 (-1)) 7 5 (-1))
def GB : Gt := (up2 (up2 (up2 (up2 (up2 (up2 (up2 GA 75 18 (-1)) 105 0 (-1)) 105 1 (-1)) 105 2 (-1)) 105 3 (-1)) 105 4 (-1)) 105 5 (-1))
theorem i_X12 : AC mX12_init 1 32 2027 [.ref 75] (Zc 76 ((0, 2, 58) :: (58, 0, 16) :: (58, 10, 74) :: (58, 9, 73) :: (58, 8, 72) :: (58, 7, 71) :: (58, 6, 70) :: (58, 5, 69) :: (58, 4, 68) :: (58, 3, 67) :: (58, 2, 66) :: (58, 1, 59) :: (59, 0, 60) :: (59, 1, 61) :: (59, 2, 62) :: (59, 3, 63) :: (59, 4, 64) :: (59, 5, 65) :: (0, 1, 41) :: (41, 0, 16) :: (41, 10, 57) :: (41, 9, 56) :: (41, 8, 55) :: (41, 7, 54) :: (41, 6, 53) :: (41, 5, 52) :: (41, 4, 51) :: (41, 3, 50) :: (41, 2, 49) :: (41, 1, 42) :: (42, 0, 43) :: (42, 1, 44) :: (42, 2, 45) :: (42, 3, 46) :: (42, 4, 47) :: (42, 5, 48) :: (0, 0, 24) :: (24, 0, 16) :: (24, 10, 40) :: (24, 9, 39) :: (24, 8, 38) :: (24, 7, 37) :: (24, 6, 36) :: (24, 5, 35) :: (24, 4, 34) :: (24, 3, 33) :: (24, 2, 32) :: (24, 1, 25) :: (25, 0, 26) :: (25, 1, 27) :: (25, 2, 28) :: (25, 3, 29) :: (25, 4, 30) :: (25, 5, 31) :: (0, 3, 16) :: (16, 6, 23) :: (16, 5, 22) :: (16, 4, 21) :: (16, 3, 20) :: (16, 2, 19) :: (16, 1, 18) :: (16, 0, 17) :: (0, 9, 9) :: (9, 0, 10) :: (9, 1, 11) :: (9, 2, 12) :: (9, 3, 13) :: (9, 4, 14) :: (9, 5, 15) :: (0, 8, 8) :: (0, 7, 7) :: (0, 6, 6) :: (0, 5, 4) :: (4, 0, 5) :: (0, 4, 1) :: (1, 2, 3) :: (1, 0, 2) :: [])) (up2 (up2 (up2 (up2 (up2 (up2 G00 7 0 (-1)) 7 1 (-1)) 7 2 (-1)) 7 3 (-1)) 7 4 (-1)) 7 5 (-1)) L00 (DQ none (Zc 108 ((75, 48, 107) :: (75, 47, 106) :: (75, 46, 105) :: (75, 43, 104) :: (75, 42, 103) :: (75, 41, 102) :: (75, 40, 101) :: (75, 38, 100) :: (75, 36, 99) :: (75, 35, 98) :: (75, 33, 97) :: (75, 32, 96) :: (75, 30, 95) :: (75, 29, 94) :: (75, 28, 93) :: (75, 26, 92) :: (75, 24, 91) :: (75, 23, 90) :: (75, 22, 89) :: (75, 21, 88) :: (75, 20, 87) :: (75, 19, 86) :: (75, 12, 85) :: (75, 9, 84) :: (75, 8, 83) :: (75, 7, 82) :: (75, 6, 81) :: (75, 5, 80) :: (75, 4, 79) :: (75, 3, 78) :: (75, 1, 77) :: (75, 0, 76) :: (0, 2, 58) :: (58, 0, 16) :: (58, 10, 74) :: (58, 9, 73) :: (58, 8, 72) :: (58, 7, 71) :: (58, 6, 70) :: (58, 5, 69) :: (58, 4, 68) :: (58, 3, 67) :: (58, 2, 66) :: (58, 1, 59) :: (59, 0, 60) :: (59, 1, 61) :: (59, 2, 62) :: (59, 3, 63) :: (59, 4, 64) :: (59, 5, 65) :: (0, 1, 41) :: (41, 0, 16) :: (41, 10, 57) :: (41, 9, 56) :: (41, 8, 55) :: (41, 7, 54) :: (41, 6, 53) :: (41, 5, 52) :: (41, 4, 51) :: (41, 3, 50) :: (41, 2, 49) :: (41, 1, 42) :: (42, 0, 43) :: (42, 1, 44) :: (42, 2, 45) :: (42, 3, 46) :: (42, 4, 47) :: (42, 5, 48) :: (0, 0, 24) :: (24, 0, 16) :: (24, 10, 40) :: (24, 9, 39) :: (24, 8, 38) :: (24, 7, 37) :: (24, 6, 36) :: (24, 5, 35) :: (24, 4, 34) :: (24, 3, 33) :: (24, 2, 32) :: (24, 1, 25) :: (25, 0, 26) :: (25, 1, 27) :: (25, 2, 28) :: (25, 3, 29) :: (25, 4, 30) :: (25, 5, 31) :: (0, 3, 16) :: (16, 6, 23) :: (16, 5, 22) :: (16, 4, 21) :: (16, 3, 20) :: (16, 2, 19) :: (16, 1, 18) :: (16, 0, 17) :: (0, 9, 9) :: (9, 0, 10) :: (9, 1, 11) :: (9, 2, 12) :: (9, 3, 13) :: (9, 4, 14) :: (9, 5, 15) :: (0, 8, 8) :: (0, 7, 7) :: (0, 6, 6) :: (0, 5, 4) :: (4, 0, 5) :: (0, 4, 1) :: (1, 2, 3) :: (1, 0, 2) :: [])) (up2 (up2 (up2 (up2 (up2 (up2 (up2 (up2 (up2 (up2 (up2 (up2 (up2 G00 7 0 (-1)) 7 1 (-1)) 7 2 (-1)) 7 3 (-1)) 7 4 (-1)) 7 5 (-1)) 75 18 (-1)) 105 0 (-1)) 105 1 (-1)) 105 2 (-1)) 105 3 (-1)) 105 4 (-1)) 105 5 (-1)) L00) := by
  refine AC.intro (by decide +kernel) (Nat.le_of_ble_eq_true rfl) ?_
  refine ax_lv [(0, .ref 75)] ⟨rfl, trivial⟩ ?_
  refine ax_aload_n (i := 0) dX12_init_0 rfl rfl ?_
  refine ax_objI dX12_init_1 lo_X12_3 oi_inst oi_code (Nat.le_of_ble_eq_true rfl) (Nat.le_of_ble_eq_true rfl) ?_
  refine ax_aload_n (i := 0) dX12_init_4 rfl rfl ?_
  refine ax_iconst (v := 4) dX12_init_5 (by decide) ?_
  refine ax_na (n := 76) (n2 := 77) (N' := 4) (t0 := 0) dX12_init_6 rfl (Or.inl rfl) (fun _ => rfl) aw_int rfl (by decide) (by decide) rfl (by decide) (by decide) (by decide) rfl (by decide +kernel) (fun _ => rfl) (fun _ => rfl) ?_
  refine ax_pr dX12_init_8 fl_X12_9 (Or.inr ⟨fp_X12_12_0, rfl⟩) rfl (by decide) (by decide) rfl ?_
  refine ax_aload_n (i := 0) dX12_init_11 rfl rfl ?_
  refine ax_iconst (v := 4) dX12_init_12 (by decide) ?_
  refine ax_na (n := 77) (n2 := 78) (N' := 4) (t0 := 0) dX12_init_13 rfl (Or.inl rfl) (fun _ => rfl) aw_int rfl (by decide) (by decide) rfl (by decide) (by decide) (by decide) rfl (by decide +kernel) (fun _ => rfl) (fun _ => rfl) ?_
  refine ax_pr dX12_init_15 fl_X12_15 (Or.inr ⟨fp_X12_12_1, rfl⟩) rfl (by decide) (by decide) rfl ?_
  refine ax_aload_n (i := 0) dX12_init_18 rfl rfl ?_
  refine ax_bipush (v := 6) dX12_init_19 (by decide) ?_
  refine ax_na (n := 78) (n2 := 79) (N' := 6) (t0 := 0) dX12_init_21 rfl (Or.inl rfl) (fun _ => rfl) aw_int rfl (by decide) (by decide) rfl (by decide) (by decide) (by decide) rfl (by decide +kernel) (fun _ => rfl) (fun _ => rfl) ?_
  refine ax_pr dX12_init_23 fl_X12_18 (Or.inr ⟨fp_X12_12_3, rfl⟩) rfl (by decide) (by decide) rfl ?_
  refine ax_aload_n (i := 0) dX12_init_26 rfl rfl ?_
  refine ax_bipush (v := 6) dX12_init_27 (by decide) ?_
  refine ax_na (n := 79) (n2 := 80) (N' := 6) (t0 := 0) dX12_init_29 rfl (Or.inl rfl) (fun _ => rfl) aw_int rfl (by decide) (by decide) rfl (by decide) (by decide) (by decide) rfl (by decide +kernel) (fun _ => rfl) (fun _ => rfl) ?_
  refine ax_pr dX12_init_31 fl_X12_21 (Or.inr ⟨fp_X12_12_4, rfl⟩) rfl (by decide) (by decide) rfl ?_
  refine ax_aload_n (i := 0) dX12_init_34 rfl rfl ?_
  refine ax_bipush (v := 6) dX12_init_35 (by decide) ?_
  refine ax_na (n := 80) (n2 := 81) (N' := 6) (t0 := 0) dX12_init_37 rfl (Or.inl rfl) (fun _ => rfl) aw_int rfl (by decide) (by decide) rfl (by decide) (by decide) (by decide) rfl (by decide +kernel) (fun _ => rfl) (fun _ => rfl) ?_
  refine ax_pr dX12_init_39 fl_X12_24 (Or.inr ⟨fp_X12_12_5, rfl⟩) rfl (by decide) (by decide) rfl ?_
  refine ax_aload_n (i := 0) dX12_init_42 rfl rfl ?_
  refine ax_bipush (v := 6) dX12_init_43 (by decide) ?_
  refine ax_na (n := 81) (n2 := 82) (N' := 6) (t0 := 0) dX12_init_45 rfl (Or.inl rfl) (fun _ => rfl) aw_int rfl (by decide) (by decide) rfl (by decide) (by decide) (by decide) rfl (by decide +kernel) (fun _ => rfl) (fun _ => rfl) ?_
  refine ax_pr dX12_init_47 fl_X12_27 (Or.inr ⟨fp_X12_12_6, rfl⟩) rfl (by decide) (by decide) rfl ?_
  refine ax_aload_n (i := 0) dX12_init_50 rfl rfl ?_
  refine ax_bipush (v := 6) dX12_init_51 (by decide) ?_
  refine ax_na (n := 82) (n2 := 83) (N' := 6) (t0 := 0) dX12_init_53 rfl (Or.inl rfl) (fun _ => rfl) aw_int rfl (by decide) (by decide) rfl (by decide) (by decide) (by decide) rfl (by decide +kernel) (fun _ => rfl) (fun _ => rfl) ?_
  refine ax_pr dX12_init_55 fl_X12_30 (Or.inr ⟨fp_X12_12_7, rfl⟩) rfl (by decide) (by decide) rfl ?_
  refine ax_aload_n (i := 0) dX12_init_58 rfl rfl ?_
  refine ax_bipush (v := 6) dX12_init_59 (by decide) ?_
  refine ax_na (n := 83) (n2 := 84) (N' := 6) (t0 := 0) dX12_init_61 rfl (Or.inl rfl) (fun _ => rfl) aw_int rfl (by decide) (by decide) rfl (by decide) (by decide) (by decide) rfl (by decide +kernel) (fun _ => rfl) (fun _ => rfl) ?_
  refine ax_pr dX12_init_63 fl_X12_33 (Or.inr ⟨fp_X12_12_8, rfl⟩) rfl (by decide) (by decide) rfl ?_
  refine ax_aload_n (i := 0) dX12_init_66 rfl rfl ?_
  refine ax_bipush (v := 24) dX12_init_67 (by decide) ?_
  refine ax_na (n := 84) (n2 := 85) (N' := 24) (t0 := 0) dX12_init_69 rfl (Or.inl rfl) (fun _ => rfl) aw_int rfl (by decide) (by decide) rfl (by decide) (by decide) (by decide) rfl (by decide +kernel) (fun _ => rfl) (fun _ => rfl) ?_
  refine ax_pr dX12_init_71 fl_X12_36 (Or.inr ⟨fp_X12_12_9, rfl⟩) rfl (by decide) (by decide) rfl ?_
  refine ax_aload_n (i := 0) dX12_init_74 rfl rfl ?_
  refine ax_bipush (v := 100) dX12_init_75 (by decide) ?_
  refine ax_na (n := 85) (n2 := 86) (N' := 100) (t0 := 0) dX12_init_77 rfl (Or.inl rfl) (fun _ => rfl) aw_int rfl (by decide) (by decide) rfl (by decide) (by decide) (by decide) rfl (by decide +kernel) (fun _ => rfl) (fun _ => rfl) ?_
  refine ax_pr dX12_init_79 fl_X12_39 (Or.inr ⟨fp_X12_12_12, rfl⟩) rfl (by decide) (by decide) rfl ?_
  refine ax_aload_n (i := 0) dX12_init_82 rfl rfl ?_
  refine ax_bipush (v := 6) dX12_init_83 (by decide) ?_
  refine ax_na (n := 86) (n2 := 87) (N' := 6) (t0 := 0) dX12_init_85 rfl (Or.inl rfl) (fun _ => rfl) aw_int rfl (by decide) (by decide) rfl (by decide) (by decide) (by decide) rfl (by decide +kernel) (fun _ => rfl) (fun _ => rfl) ?_
  refine ax_pr dX12_init_87 fl_X12_42 (Or.inr ⟨fp_X12_12_19, rfl⟩) rfl (by decide) (by decide) rfl ?_
  refine ax_aload_n (i := 0) dX12_init_90 rfl rfl ?_
  refine ax_bipush (v := 61) dX12_init_91 (by decide) ?_
  refine ax_na (n := 87) (n2 := 88) (N' := 61) (t0 := 0) dX12_init_93 rfl (Or.inl rfl) (fun _ => rfl) aw_int rfl (by decide) (by decide) rfl (by decide) (by decide) (by decide) rfl (by decide +kernel) (fun _ => rfl) (fun _ => rfl) ?_
  refine ax_pr dX12_init_95 fl_X12_45 (Or.inr ⟨fp_X12_12_20, rfl⟩) rfl (by decide) (by decide) rfl ?_
  refine ax_aload_n (i := 0) dX12_init_98 rfl rfl ?_
  refine ax_bipush (v := 61) dX12_init_99 (by decide) ?_
  refine ax_na (n := 88) (n2 := 89) (N' := 61) (t0 := 0) dX12_init_101 rfl (Or.inl rfl) (fun _ => rfl) aw_int rfl (by decide) (by decide) rfl (by decide) (by decide) (by decide) rfl (by decide +kernel) (fun _ => rfl) (fun _ => rfl) ?_
  refine ax_pr dX12_init_103 fl_X12_48 (Or.inr ⟨fp_X12_12_21, rfl⟩) rfl (by decide) (by decide) rfl ?_
  refine ax_aload_n (i := 0) dX12_init_106 rfl rfl ?_
  refine ax_bipush (v := 61) dX12_init_107 (by decide) ?_
  refine ax_na (n := 89) (n2 := 90) (N' := 61) (t0 := 0) dX12_init_109 rfl (Or.inl rfl) (fun _ => rfl) aw_int rfl (by decide) (by decide) rfl (by decide) (by decide) (by decide) rfl (by decide +kernel) (fun _ => rfl) (fun _ => rfl) ?_
  refine ax_pr dX12_init_111 fl_X12_51 (Or.inr ⟨fp_X12_12_22, rfl⟩) rfl (by decide) (by decide) rfl ?_
  refine ax_aload_n (i := 0) dX12_init_114 rfl rfl ?_
  refine ax_bipush (v := 61) dX12_init_115 (by decide) ?_
  refine ax_na (n := 90) (n2 := 91) (N' := 61) (t0 := 0) dX12_init_117 rfl (Or.inl rfl) (fun _ => rfl) aw_int rfl (by decide) (by decide) rfl (by decide) (by decide) (by decide) rfl (by decide +kernel) (fun _ => rfl) (fun _ => rfl) ?_
  refine ax_pr dX12_init_119 fl_X12_54 (Or.inr ⟨fp_X12_12_23, rfl⟩) rfl (by decide) (by decide) rfl ?_
  refine ax_aload_n (i := 0) dX12_init_122 rfl rfl ?_
  refine ax_sipush (v := 800) dX12_init_123 (by decide) ?_
  refine ax_na (n := 91) (n2 := 92) (N' := 800) (t0 := 0) dX12_init_126 rfl (Or.inl rfl) (fun _ => rfl) aw_int rfl (by decide) (by decide) rfl (by decide) (by decide) (by decide) rfl (by decide +kernel) (fun _ => rfl) (fun _ => rfl) ?_
  refine ax_pr dX12_init_128 fl_X12_57 (Or.inr ⟨fp_X12_12_24, rfl⟩) rfl (by decide) (by decide) rfl ?_
  refine ax_aload_n (i := 0) dX12_init_131 rfl rfl ?_
  refine ax_bipush (v := 110) dX12_init_132 (by decide) ?_
  refine ax_na (n := 92) (n2 := 93) (N' := 110) (t0 := 3) dX12_init_134 rfl (Or.inl rfl) (fun _ => rfl) aw_boolean rfl (by decide) (by decide) rfl (by decide) (by decide) (by decide) rfl (by decide +kernel) (fun _ => rfl) (fun _ => rfl) ?_
  refine ax_pr dX12_init_136 fl_X12_60 (Or.inr ⟨fp_X12_12_26, rfl⟩) rfl (by decide) (by decide) rfl ?_
  refine ax_aload_n (i := 0) dX12_init_139 rfl rfl ?_
  refine ax_iconst (v := 5) dX12_init_140 (by decide) ?_
  refine ax_na (n := 93) (n2 := 94) (N' := 5) (t0 := 0) dX12_init_141 rfl (Or.inl rfl) (fun _ => rfl) aw_int rfl (by decide) (by decide) rfl (by decide) (by decide) (by decide) rfl (by decide +kernel) (fun _ => rfl) (fun _ => rfl) ?_
  refine ax_pr dX12_init_143 fl_X12_64 (Or.inr ⟨fp_X12_12_28, rfl⟩) rfl (by decide) (by decide) rfl ?_
  refine ax_aload_n (i := 0) dX12_init_146 rfl rfl ?_
  refine ax_iconst (v := 5) dX12_init_147 (by decide) ?_
  refine ax_na (n := 94) (n2 := 95) (N' := 5) (t0 := 0) dX12_init_148 rfl (Or.inl rfl) (fun _ => rfl) aw_int rfl (by decide) (by decide) rfl (by decide) (by decide) (by decide) rfl (by decide +kernel) (fun _ => rfl) (fun _ => rfl) ?_
  refine ax_pr dX12_init_150 fl_X12_67 (Or.inr ⟨fp_X12_12_29, rfl⟩) rfl (by decide) (by decide) rfl ?_
  refine ax_aload_n (i := 0) dX12_init_153 rfl rfl ?_
  refine ax_iconst (v := 5) dX12_init_154 (by decide) ?_
  refine ax_na (n := 95) (n2 := 96) (N' := 5) (t0 := 0) dX12_init_155 rfl (Or.inl rfl) (fun _ => rfl) aw_int rfl (by decide) (by decide) rfl (by decide) (by decide) (by decide) rfl (by decide +kernel) (fun _ => rfl) (fun _ => rfl) ?_
  refine ax_pr dX12_init_157 fl_X12_70 (Or.inr ⟨fp_X12_12_30, rfl⟩) rfl (by decide) (by decide) rfl ?_
  refine ax_aload_n (i := 0) dX12_init_160 rfl rfl ?_
  refine ax_bipush (v := 10) dX12_init_161 (by decide) ?_
  refine ax_na (n := 96) (n2 := 97) (N' := 10) (t0 := 0) dX12_init_163 rfl (Or.inl rfl) (fun _ => rfl) aw_int rfl (by decide) (by decide) rfl (by decide) (by decide) (by decide) rfl (by decide +kernel) (fun _ => rfl) (fun _ => rfl) ?_
  refine ax_pr dX12_init_165 fl_X12_73 (Or.inr ⟨fp_X12_12_32, rfl⟩) rfl (by decide) (by decide) rfl ?_
  refine ax_aload_n (i := 0) dX12_init_168 rfl rfl ?_
  refine ax_bipush (v := 10) dX12_init_169 (by decide) ?_
  refine ax_na (n := 97) (n2 := 98) (N' := 10) (t0 := 0) dX12_init_171 rfl (Or.inl rfl) (fun _ => rfl) aw_int rfl (by decide) (by decide) rfl (by decide) (by decide) (by decide) rfl (by decide +kernel) (fun _ => rfl) (fun _ => rfl) ?_
  refine ax_pr dX12_init_173 fl_X12_76 (Or.inr ⟨fp_X12_12_33, rfl⟩) rfl (by decide) (by decide) rfl ?_
  refine ax_aload_n (i := 0) dX12_init_176 rfl rfl ?_
  refine ax_bipush (v := 8) dX12_init_177 (by decide) ?_
  refine ax_na (n := 98) (n2 := 99) (N' := 8) (t0 := 0) dX12_init_179 rfl (Or.inl rfl) (fun _ => rfl) aw_int rfl (by decide) (by decide) rfl (by decide) (by decide) (by decide) rfl (by decide +kernel) (fun _ => rfl) (fun _ => rfl) ?_
  refine ax_pr dX12_init_181 fl_X12_79 (Or.inr ⟨fp_X12_12_35, rfl⟩) rfl (by decide) (by decide) rfl ?_
  refine ax_aload_n (i := 0) dX12_init_184 rfl rfl ?_
  refine ax_bipush (v := 8) dX12_init_185 (by decide) ?_
  refine ax_na (n := 99) (n2 := 100) (N' := 8) (t0 := 0) dX12_init_187 rfl (Or.inl rfl) (fun _ => rfl) aw_int rfl (by decide) (by decide) rfl (by decide) (by decide) (by decide) rfl (by decide +kernel) (fun _ => rfl) (fun _ => rfl) ?_
  refine ax_pr dX12_init_189 fl_X12_82 (Or.inr ⟨fp_X12_12_36, rfl⟩) rfl (by decide) (by decide) rfl ?_
  refine ax_aload_n (i := 0) dX12_init_192 rfl rfl ?_
  refine ax_bipush (v := 20) dX12_init_193 (by decide) ?_
  refine ax_na (n := 100) (n2 := 101) (N' := 20) (t0 := 0) dX12_init_195 rfl (Or.inl rfl) (fun _ => rfl) aw_int rfl (by decide) (by decide) rfl (by decide) (by decide) (by decide) rfl (by decide +kernel) (fun _ => rfl) (fun _ => rfl) ?_
  refine ax_pr dX12_init_197 fl_X12_85 (Or.inr ⟨fp_X12_12_38, rfl⟩) rfl (by decide) (by decide) rfl ?_
  refine ax_aload_n (i := 0) dX12_init_200 rfl rfl ?_
  refine ax_bipush (v := 125) dX12_init_201 (by decide) ?_
  refine ax_na (n := 101) (n2 := 102) (N' := 125) (t0 := 0) dX12_init_203 rfl (Or.inl rfl) (fun _ => rfl) aw_int rfl (by decide) (by decide) rfl (by decide) (by decide) (by decide) rfl (by decide +kernel) (fun _ => rfl) (fun _ => rfl) ?_
  refine ax_pr dX12_init_205 fl_X12_88 (Or.inr ⟨fp_X12_12_40, rfl⟩) rfl (by decide) (by decide) rfl ?_
  refine ax_aload_n (i := 0) dX12_init_208 rfl rfl ?_
  refine ax_bipush (v := 125) dX12_init_209 (by decide) ?_
  refine ax_na (n := 102) (n2 := 103) (N' := 125) (t0 := 0) dX12_init_211 rfl (Or.inl rfl) (fun _ => rfl) aw_int rfl (by decide) (by decide) rfl (by decide) (by decide) (by decide) rfl (by decide +kernel) (fun _ => rfl) (fun _ => rfl) ?_
  refine ax_pr dX12_init_213 fl_X12_91 (Or.inr ⟨fp_X12_12_41, rfl⟩) rfl (by decide) (by decide) rfl ?_
  refine ax_aload_n (i := 0) dX12_init_216 rfl rfl ?_
  refine ax_iconst (v := 3) dX12_init_217 (by decide) ?_
  refine ax_na (n := 103) (n2 := 104) (N' := 3) (t0 := 0) dX12_init_218 rfl (Or.inl rfl) (fun _ => rfl) aw_int rfl (by decide) (by decide) rfl (by decide) (by decide) (by decide) rfl (by decide +kernel) (fun _ => rfl) (fun _ => rfl) ?_
  refine ax_pr dX12_init_220 fl_X12_94 (Or.inr ⟨fp_X12_12_42, rfl⟩) rfl (by decide) (by decide) rfl ?_
  refine ax_aload_n (i := 0) dX12_init_223 rfl rfl ?_
  refine ax_iconst (v := 3) dX12_init_224 (by decide) ?_
  refine ax_na (n := 104) (n2 := 105) (N' := 3) (t0 := 0) dX12_init_225 rfl (Or.inl rfl) (fun _ => rfl) aw_int rfl (by decide) (by decide) rfl (by decide) (by decide) (by decide) rfl (by decide +kernel) (fun _ => rfl) (fun _ => rfl) ?_
  refine ax_pr dX12_init_227 fl_X12_97 (Or.inr ⟨fp_X12_12_43, rfl⟩) rfl (by decide) (by decide) rfl ?_
  refine ax_aload_n (i := 0) dX12_init_230 rfl rfl ?_
  refine ax_bipush (v := 6) dX12_init_231 (by decide) ?_
  refine ax_na (n := 105) (n2 := 106) (N' := 6) (t0 := 0) dX12_init_233 rfl (Or.inl rfl) (fun _ => rfl) aw_int rfl (by decide) (by decide) rfl (by decide) (by decide) (by decide) rfl (by decide +kernel) (fun _ => rfl) (fun _ => rfl) ?_
  refine ax_pr dX12_init_235 fl_X12_100 (Or.inr ⟨fp_X12_12_46, rfl⟩) rfl (by decide) (by decide) rfl ?_
  refine ax_aload_n (i := 0) dX12_init_238 rfl rfl ?_
  refine ax_bipush (v := 6) dX12_init_239 (by decide) ?_
  refine ax_na (n := 106) (n2 := 107) (N' := 6) (t0 := 0) dX12_init_241 rfl (Or.inl rfl) (fun _ => rfl) aw_int rfl (by decide) (by decide) rfl (by decide) (by decide) (by decide) rfl (by decide +kernel) (fun _ => rfl) (fun _ => rfl) ?_
  refine ax_pr dX12_init_243 fl_X12_103 (Or.inr ⟨fp_X12_12_47, rfl⟩) rfl (by decide) (by decide) rfl ?_
  refine ax_aload_n (i := 0) dX12_init_246 rfl rfl ?_
  refine ax_sipush (v := 360) dX12_init_247 (by decide) ?_
  refine ax_na (n := 107) (n2 := 108) (N' := 360) (t0 := 1) dX12_init_250 rfl (Or.inr rfl) (fun _ => rfl) aw_long rfl (by decide) (by decide) rfl (by decide) (by decide) (by decide) rfl (by decide +kernel) (fun _ => rfl) (fun _ => rfl) ?_
  refine ax_pr dX12_init_252 fl_X12_106 (Or.inr ⟨fp_X12_12_48, rfl⟩) rfl (by decide) (by decide) rfl ?_
  refine ax_aload_n (i := 0) dX12_init_255 rfl rfl ?_
  refine ax_iconst (v := (-1)) dX12_init_256 (by decide) ?_
  refine ax_putI dX12_init_257 fl_X12_110 (Or.inl fp_X12_12_18) rfl rfl rfl (Zc_s (by decide) rfl) ?_
  refine ax_iconst (v := 0) dX12_init_260 (by decide) ?_
  refine ax_istore_n (i := 1) dX12_init_261 rfl (by decide) rfl ?_
  refine ax_iload_n (i := 1) dX12_init_262 rfl rfl ?_
  refine ax_bipush (v := 6) dX12_init_263 (by decide) ?_
  refine ax_icmp_ge (tgt := 281) dX12_init_265 (by decide) (fun c => absurd c (by decide)) (fun _ => ?_)
  refine ax_aload_n (i := 0) dX12_init_268 rfl rfl ?_
  refine ax_getR dX12_init_269 fl_X12_100 rfl (Zc_s (by decide) rfl) (show r9 _ 75 46 = some 105 from rfl) ?_
  refine ax_iload_n (i := 1) dX12_init_272 rfl rfl ?_
  refine ax_iconst (v := (-1)) dX12_init_273 (by decide) ?_
  refine ax_iastN 0 dX12_init_274 (Zc_s (by decide) rfl) rfl (by decide) (by decide) ?_
  refine ax_iinc (v := 1) dX12_init_275 rfl rfl (by decide) rfl ?_
  refine ax_goto (tgt := 262) dX12_init_278 (by decide) ?_
  refine ax_iload_n (i := 1) dX12_init_262 rfl rfl ?_
  refine ax_bipush (v := 6) dX12_init_263 (by decide) ?_
  refine ax_icmp_ge (tgt := 281) dX12_init_265 (by decide) (fun c => absurd c (by decide)) (fun _ => ?_)
  refine ax_aload_n (i := 0) dX12_init_268 rfl rfl ?_
  refine ax_getR dX12_init_269 fl_X12_100 rfl (Zc_s (by decide) rfl) (show r9 _ 75 46 = some 105 from rfl) ?_
  refine ax_iload_n (i := 1) dX12_init_272 rfl rfl ?_
  refine ax_iconst (v := (-1)) dX12_init_273 (by decide) ?_
  refine ax_iastN 1 dX12_init_274 (Zc_s (by decide) rfl) rfl (by decide) (by decide) ?_
  refine ax_iinc (v := 2) dX12_init_275 rfl rfl (by decide) rfl ?_
  refine ax_goto (tgt := 262) dX12_init_278 (by decide) ?_
  refine ax_iload_n (i := 1) dX12_init_262 rfl rfl ?_
  refine ax_bipush (v := 6) dX12_init_263 (by decide) ?_
  refine ax_icmp_ge (tgt := 281) dX12_init_265 (by decide) (fun c => absurd c (by decide)) (fun _ => ?_)
  refine ax_aload_n (i := 0) dX12_init_268 rfl rfl ?_
  refine ax_getR dX12_init_269 fl_X12_100 rfl (Zc_s (by decide) rfl) (show r9 _ 75 46 = some 105 from rfl) ?_
  refine ax_iload_n (i := 1) dX12_init_272 rfl rfl ?_
  refine ax_iconst (v := (-1)) dX12_init_273 (by decide) ?_
  refine ax_iastN 2 dX12_init_274 (Zc_s (by decide) rfl) rfl (by decide) (by decide) ?_
  refine ax_iinc (v := 3) dX12_init_275 rfl rfl (by decide) rfl ?_
  refine ax_goto (tgt := 262) dX12_init_278 (by decide) ?_
  refine ax_iload_n (i := 1) dX12_init_262 rfl rfl ?_
  refine ax_bipush (v := 6) dX12_init_263 (by decide) ?_
  refine ax_icmp_ge (tgt := 281) dX12_init_265 (by decide) (fun c => absurd c (by decide)) (fun _ => ?_)
  refine ax_aload_n (i := 0) dX12_init_268 rfl rfl ?_
  refine ax_getR dX12_init_269 fl_X12_100 rfl (Zc_s (by decide) rfl) (show r9 _ 75 46 = some 105 from rfl) ?_
  refine ax_iload_n (i := 1) dX12_init_272 rfl rfl ?_
  refine ax_iconst (v := (-1)) dX12_init_273 (by decide) ?_
  refine ax_iastN 3 dX12_init_274 (Zc_s (by decide) rfl) rfl (by decide) (by decide) ?_
  refine ax_iinc (v := 4) dX12_init_275 rfl rfl (by decide) rfl ?_
  refine ax_goto (tgt := 262) dX12_init_278 (by decide) ?_
  refine ax_iload_n (i := 1) dX12_init_262 rfl rfl ?_
  refine ax_bipush (v := 6) dX12_init_263 (by decide) ?_
  refine ax_icmp_ge (tgt := 281) dX12_init_265 (by decide) (fun c => absurd c (by decide)) (fun _ => ?_)
  refine ax_aload_n (i := 0) dX12_init_268 rfl rfl ?_
  refine ax_getR dX12_init_269 fl_X12_100 rfl (Zc_s (by decide) rfl) (show r9 _ 75 46 = some 105 from rfl) ?_
  refine ax_iload_n (i := 1) dX12_init_272 rfl rfl ?_
  refine ax_iconst (v := (-1)) dX12_init_273 (by decide) ?_
  refine ax_iastN 4 dX12_init_274 (Zc_s (by decide) rfl) rfl (by decide) (by decide) ?_
  refine ax_iinc (v := 5) dX12_init_275 rfl rfl (by decide) rfl ?_
  refine ax_goto (tgt := 262) dX12_init_278 (by decide) ?_
  refine ax_iload_n (i := 1) dX12_init_262 rfl rfl ?_
  refine ax_bipush (v := 6) dX12_init_263 (by decide) ?_
  refine ax_icmp_ge (tgt := 281) dX12_init_265 (by decide) (fun c => absurd c (by decide)) (fun _ => ?_)
  refine ax_aload_n (i := 0) dX12_init_268 rfl rfl ?_
  refine ax_getR dX12_init_269 fl_X12_100 rfl (Zc_s (by decide) rfl) (show r9 _ 75 46 = some 105 from rfl) ?_
  refine ax_iload_n (i := 1) dX12_init_272 rfl rfl ?_
  refine ax_iconst (v := (-1)) dX12_init_273 (by decide) ?_
  refine ax_iastN 5 dX12_init_274 (Zc_s (by decide) rfl) rfl (by decide) (by decide) ?_
  refine ax_iinc (v := 6) dX12_init_275 rfl rfl (by decide) rfl ?_
  refine ax_goto (tgt := 262) dX12_init_278 (by decide) ?_
  refine ax_iload_n (i := 1) dX12_init_262 rfl rfl ?_
  refine ax_bipush (v := 6) dX12_init_263 (by decide) ?_
  refine ax_icmp_ge (tgt := 281) dX12_init_265 (by decide) (fun _ => ?_) (fun c => absurd (by decide) c)
  refine ax_vret dX12_init_281 rfl (by decide) (by decide) ?_
  exact ⟨rfl, rfl, rfl, rfl⟩
theorem rf_ok : ∀ k, k < 108 → ∀ i, i < 49 → RF0 k i = none ∨ r9 rfB k i = RF0 k i := by decide +kernel
theorem rf_no : ∀ k, k < 108 → (RFl.getD k []).length ≤ 49 := by decide +kernel
theorem ZB_OK : OK (Zc 108 rfB) := by
  refine ⟨fun k x h => Zc_s (SH0_lt h) h, fun k i j h => ?_, Nat.le_refl _⟩
  have hk := RF0_lt h
  rcases Nat.lt_or_ge i 49 with q | q
  · rcases rf_ok k hk i q with z | z
    · rw [z] at h; cases h
    · exact z.trans h
  · unfold RF0 at h
    rw [List.getD_eq_getElem?_getD, List.getElem?_eq_none (Nat.le_trans (rf_no k hk) q)] at h
    cases h
def W00 : Wv := mkW 0 0 (fun _ _ => 0) (fun _ => 0) (fun _ => 0) (fun _ _ _ => 0) 2
def H00 : Hv := ((0, fun _ => 0, fun _ => 0, fun _ => 0), (0, fun _ => 0, fun _ => 0), (0, fun _ => 0, fun _ => 0))
def T00 : Nat × (Nat → Nat) := (0, fun _ => 0)
def R00 : Nat × (Nat → Int32) := (0, fun _ => 0)
def P00 : Pt9 := (fun _ => -1, fun _ => 0, fun _ _ => 0)
theorem no_l {P : Nat → Prop} : ∀ k, k < 0 → P k := fun k h => absurd h (Nat.not_lt_zero k)
theorem rf_h : (Zc 108 rfB).2.2 24 16 = none := by decide +kernel
theorem GB_7 : ∀ t, t < 6 → GB 7 t = -1 := by decide +kernel
theorem GB_105 : ∀ t, t < 6 → GB 105 t = -1 := by decide +kernel
theorem GB_0 : ∀ a, a < 108 → a ≠ 7 → a ≠ 75 → a ≠ 105 → ∀ i, GB a i = 0 := by
  intro a _ h1 h2 h3 i
  unfold GB GA G00
  simp only [up2_k h1, up2_k h2, up2_k h3]
theorem GB_75 : ∀ i, i ≠ 18 → GB 75 i = 0 := by
  intro i hi
  unfold GB GA G00
  simp only [up2_k (show 75 ≠ 7 by decide), up2_k (show 75 ≠ 105 by decide), up2_i hi]
theorem GB_18 : GB 75 18 = -1 := by decide +kernel
theorem IC_0 : IC (Zc 108 rfB) GB L00 W00 H00 none T00 R00 P00 0 := by
  have g : ∀ a, a < 75 → a ≠ 7 → ∀ i, GB a i = 0 := fun a h1 h2 i => GB_0 a (by omega) h2 (by omega) (by omega) i
  have hs : (Zc 108 rfB).2.2 24 16 = none := rf_h
  refine ⟨ZB_OK, ⟨⟨g 24 (by decide) (by decide) _, g 24 (by decide) (by decide) _, fun p hp => absurd hp (Nat.not_lt_zero p), fun q hq => g _ (by decide) (by decide) _, fun q hq => g _ (by decide) (by decide) _, ?_, ?_, ?_⟩, ⟨by decide, by decide, fun p hp => absurd hp (Nat.not_lt_zero p), fun p hp => absurd hp (Nat.not_lt_zero p), fun q hq => ⟨0, by decide, rfl⟩⟩, by decide⟩, ⟨⟨⟨g 24 (by decide) (by decide) _, no_l⟩, ⟨g 24 (by decide) (by decide) _, no_l⟩, ⟨g 24 (by decide) (by decide) _, no_l⟩⟩, ⟨by decide, no_l, by decide, no_l, by decide, no_l⟩⟩, g 0 (by decide) (by decide) _, ⟨Nat.zero_le _, g 1 (by decide) (by decide) _, no_l⟩, ⟨Nat.zero_le _, g 4 (by decide) (by decide) _, fun i _ h => absurd h (Nat.not_lt_zero i)⟩, fun t ht => ⟨GB_7 t ht, Or.inl rfl, g 8 (by decide) (by decide) _, Nat.zero_le _, fun _ => rfl, fun i _ => rfl⟩, Nat.zero_le _, g 0 (by decide) (by decide) _, rfl⟩
  · rw [hs]; exact fun k hk => absurd hk (by simp)
  · rw [hs]; rfl
  · intro p row mi; rw [hs]; rfl
theorem IM_0 : IM GB L00 W00 H00 none T00 R00 P00 0 := by
  have g : ∀ a, 75 < a → a < 108 → a ≠ 105 → ∀ i, GB a i = 0 := fun a h1 h2 h3 i => GB_0 a h2 (by omega) (by omega) h3 i
  refine ⟨⟨GB_75 _ (by decide), GB_75 _ (by decide), fun p hp => absurd hp (Nat.not_lt_zero p), fun q hq => g _ (by decide) (by decide) (by decide) _, fun q hq => g _ (by decide) (by decide) (by decide) _, ?_⟩, ⟨⟨GB_75 _ (by decide), no_l⟩, ⟨GB_75 _ (by decide), no_l⟩, ⟨GB_75 _ (by decide), no_l⟩⟩, GB_75 _ (by decide), ⟨GB_75 _ (by decide), no_l⟩, ⟨GB_75 _ (by decide), fun i _ h => absurd h (Nat.not_lt_zero i)⟩, fun t ht => ⟨GB_105 t ht, g 106 (by decide) (by decide) (by decide) _, fun i _ => rfl⟩, GB_75 _ (by decide), 0, Nat.le_refl _, GB_75 _ (by decide)⟩
  rw [GB_18]
  refine ⟨Or.inl rfl, ?_, fun p row mi => ?_⟩
  · unfold drO; rw [if_pos rfl]; rfl
  · unfold smO; rw [if_pos rfl]; rfl
