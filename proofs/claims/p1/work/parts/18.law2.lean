set_option maxRecDepth 100000 in
theorem lw_seven (s0 s1 s2 s3 s4 s5 s6 : Int32) : At 14 (some [s0, s1, s2, s3, s4, s5, s6]) (some .boolean) bs_L_law (18, [(3, .int 0), (2, .ref 231), (1, .ref 0), (0, .float 0)], [], (hp_X ++ hp_M, 51333)) LwE := by
  refine At.enter rfl ?_
  refine r_iload_n rfl ?_
  refine r_sload_n rfl ?_
  refine r_sclen 7 rfl ?_
  refine r_bipush 7 rfl ?_
  refine r_isub 0 rfl ?_
  refine r_icf 27 rfl (by decide) ?_
  refine At.enter rfl ?_
  refine r_sload_n rfl ?_
  refine r_iload_n rfl ?_
  refine r_scald (v := s0) (by decide) rfl ?_
  refine r_bipush 63 rfl ?_
  refine r_iand (s0 &&& 63) rfl ?_
  by_cases c1_0 : ((s0 &&& 63)).toInt = 0
  · refine r_tsw 208 (by rw [c1_0]; rfl) ?_
    exact lw_c0 s0 s1 s2 s3 s4 s5 s6
  by_cases c1_1 : ((s0 &&& 63)).toInt = 1
  · refine r_tsw 251 (by rw [c1_1]; rfl) ?_
    exact lw_c1 s0 s1 s2 s3 s4 s5 s6
  by_cases c1_2 : ((s0 &&& 63)).toInt = 2
  · refine r_tsw 294 (by rw [c1_2]; rfl) ?_
    exact lw_c2 s0 s1 s2 s3 s4 s5 s6
  by_cases c1_3 : ((s0 &&& 63)).toInt = 3
  · refine r_tsw 327 (by rw [c1_3]; rfl) ?_
    exact lw_c3 s0 s1 s2 s3 s4 s5 s6
  by_cases c1_4 : ((s0 &&& 63)).toInt = 4
  · refine r_tsw 402 (by rw [c1_4]; rfl) ?_
    exact lw_c4 s0 s1 s2 s3 s4 s5 s6
  by_cases c1_5 : ((s0 &&& 63)).toInt = 5
  · refine r_tsw 435 (by rw [c1_5]; rfl) ?_
    exact lw_c5 s0 s1 s2 s3 s4 s5 s6
  by_cases c1_6 : ((s0 &&& 63)).toInt = 6
  · refine r_tsw 458 (by rw [c1_6]; rfl) ?_
    exact lw_c6 s0 s1 s2 s3 s4 s5 s6
  by_cases c1_7 : ((s0 &&& 63)).toInt = 7
  · refine r_tsw 491 (by rw [c1_7]; rfl) ?_
    exact lw_c7 s0 s1 s2 s3 s4 s5 s6
  by_cases c1_8 : ((s0 &&& 63)).toInt = 8
  · refine r_tsw 554 (by rw [c1_8]; rfl) ?_
    exact lw_c8 s0 s1 s2 s3 s4 s5 s6
  by_cases c1_9 : ((s0 &&& 63)).toInt = 9
  · refine r_tsw 577 (by rw [c1_9]; rfl) ?_
    exact lw_c9 s0 s1 s2 s3 s4 s5 s6
  by_cases c1_10 : ((s0 &&& 63)).toInt = 10
  · refine r_tsw 590 (by rw [c1_10]; rfl) ?_
    exact lw_c10 s0 s1 s2 s3 s4 s5 s6
  by_cases c1_11 : ((s0 &&& 63)).toInt = 11
  · refine r_tsw 603 (by rw [c1_11]; rfl) ?_
    exact lw_c11 s0 s1 s2 s3 s4 s5 s6
  by_cases c1_12 : ((s0 &&& 63)).toInt = 12
  · refine r_tsw 616 (by rw [c1_12]; rfl) ?_
    exact lw_c12 s0 s1 s2 s3 s4 s5 s6
  by_cases c1_13 : ((s0 &&& 63)).toInt = 13
  · refine r_tsw 629 (by rw [c1_13]; rfl) ?_
    exact lw_c13 s0 s1 s2 s3 s4 s5 s6
  by_cases c1_14 : ((s0 &&& 63)).toInt = 14
  · refine r_tsw 652 (by rw [c1_14]; rfl) ?_
    exact lw_c14 s0 s1 s2 s3 s4 s5 s6
  by_cases c1_15 : ((s0 &&& 63)).toInt = 15
  · refine r_tsw 685 (by rw [c1_15]; rfl) ?_
    exact lw_c15 s0 s1 s2 s3 s4 s5 s6
  by_cases c1_16 : ((s0 &&& 63)).toInt = 16
  · refine r_tsw 718 (by rw [c1_16]; rfl) ?_
    exact lw_c16 s0 s1 s2 s3 s4 s5 s6
  by_cases c1_17 : ((s0 &&& 63)).toInt = 17
  · refine r_tsw 751 (by rw [c1_17]; rfl) ?_
    exact lw_c17 s0 s1 s2 s3 s4 s5 s6
  by_cases c1_18 : ((s0 &&& 63)).toInt = 18
  · refine r_tsw 784 (by rw [c1_18]; rfl) ?_
    exact lw_c18 s0 s1 s2 s3 s4 s5 s6
  by_cases c1_19 : ((s0 &&& 63)).toInt = 19
  · refine r_tsw 827 (by rw [c1_19]; rfl) ?_
    exact lw_c19 s0 s1 s2 s3 s4 s5 s6
  by_cases c1_20 : ((s0 &&& 63)).toInt = 20
  · refine r_tsw 840 (by rw [c1_20]; rfl) ?_
    exact lw_c20 s0 s1 s2 s3 s4 s5 s6
  by_cases c1_21 : ((s0 &&& 63)).toInt = 21
  · refine r_tsw 873 (by rw [c1_21]; rfl) ?_
    exact lw_c21 s0 s1 s2 s3 s4 s5 s6
  by_cases c1_22 : ((s0 &&& 63)).toInt = 22
  · refine r_tsw 906 (by rw [c1_22]; rfl) ?_
    exact lw_c22 s0 s1 s2 s3 s4 s5 s6
  by_cases c1_23 : ((s0 &&& 63)).toInt = 23
  · refine r_tsw 929 (by rw [c1_23]; rfl) ?_
    exact lw_c23 s0 s1 s2 s3 s4 s5 s6
  by_cases c1_24 : ((s0 &&& 63)).toInt = 24
  · refine r_tsw 952 (by rw [c1_24]; rfl) ?_
    exact lw_c24 s0 s1 s2 s3 s4 s5 s6
  by_cases c1_25 : ((s0 &&& 63)).toInt = 25
  · refine r_tsw 975 (by rw [c1_25]; rfl) ?_
    exact lw_c25 s0 s1 s2 s3 s4 s5 s6
  by_cases c1_26 : ((s0 &&& 63)).toInt = 26
  · refine r_tsw 998 (by rw [c1_26]; rfl) ?_
    exact lw_c26 s0 s1 s2 s3 s4 s5 s6
  by_cases c1_27 : ((s0 &&& 63)).toInt = 27
  · refine r_tsw 1031 (by rw [c1_27]; rfl) ?_
    exact lw_c27 s0 s1 s2 s3 s4 s5 s6
  by_cases c1_28 : ((s0 &&& 63)).toInt = 28
  · refine r_tsw 1044 (by rw [c1_28]; rfl) ?_
    exact lw_c28 s0 s1 s2 s3 s4 s5 s6
  by_cases c1_29 : ((s0 &&& 63)).toInt = 29
  · refine r_tsw 1067 (by rw [c1_29]; rfl) ?_
    exact lw_c29 s0 s1 s2 s3 s4 s5 s6
  by_cases c1_30 : ((s0 &&& 63)).toInt = 30
  · refine r_tsw 1090 (by rw [c1_30]; rfl) ?_
    exact lw_c30 s0 s1 s2 s3 s4 s5 s6
  by_cases c1_31 : ((s0 &&& 63)).toInt = 31
  · refine r_tsw 1123 (by rw [c1_31]; rfl) ?_
    exact lw_c31 s0 s1 s2 s3 s4 s5 s6
  by_cases c1_32 : ((s0 &&& 63)).toInt = 32
  · refine r_tsw 1136 (by rw [c1_32]; rfl) ?_
    exact lw_c32 s0 s1 s2 s3 s4 s5 s6
  by_cases c1_33 : ((s0 &&& 63)).toInt = 33
  · refine r_tsw 1149 (by rw [c1_33]; rfl) ?_
    exact lw_c33 s0 s1 s2 s3 s4 s5 s6
  by_cases c1_34 : ((s0 &&& 63)).toInt = 34
  · refine r_tsw 1192 (by rw [c1_34]; rfl) ?_
    exact lw_c34 s0 s1 s2 s3 s4 s5 s6
  by_cases c1_35 : ((s0 &&& 63)).toInt = 35
  · refine r_tsw 1215 (by rw [c1_35]; rfl) ?_
    exact lw_c35 s0 s1 s2 s3 s4 s5 s6
  by_cases c1_36 : ((s0 &&& 63)).toInt = 36
  · refine r_tsw 1248 (by rw [c1_36]; rfl) ?_
    exact lw_c36 s0 s1 s2 s3 s4 s5 s6
  by_cases c1_37 : ((s0 &&& 63)).toInt = 37
  · refine r_tsw 1271 (by rw [c1_37]; rfl) ?_
    exact lw_c37 s0 s1 s2 s3 s4 s5 s6
  by_cases c1_38 : ((s0 &&& 63)).toInt = 38
  · refine r_tsw 1294 (by rw [c1_38]; rfl) ?_
    exact lw_c38 s0 s1 s2 s3 s4 s5 s6
  by_cases c1_39 : ((s0 &&& 63)).toInt = 39
  · refine r_tsw 1317 (by rw [c1_39]; rfl) ?_
    exact lw_c39 s0 s1 s2 s3 s4 s5 s6
  have c2 : ((s0 &&& 63)).toInt < 0 ∨ 39 < ((s0 &&& 63)).toInt := by omega
  refine r_tsw 1330 (by unfold en_sw; rw [if_pos c2]; rfl) ?_
  exact lw_tail ⟨by show (hp_X ++ hp_M).length = 259; rw [List.length_append, hp_Xl, hp_Ml], rfl⟩
