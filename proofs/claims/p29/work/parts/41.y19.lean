def F_X5_wordHere_176 : List (Nat × Nat) := []
def A_X5_wordHere_176 : List Nat := []
set_option maxRecDepth 100000 in
set_option maxHeartbeats 4000000 in
theorem T_X5_wordHere_176 (d : Nat) {N : Nat} {g0 : List en_E} (hI0 : HI g0) (hT : TKX g0) : Ev (d + 3) 78 [.ref 176] (g0, N) (fun w h' => ∃ g', h' = (g', N) ∧ HI g' ∧ Fr F_X5_wordHere_176 A_X5_wordHere_176 g0 g' ∧ ∃ r : Int32, w = some (.int r) ∧ ((-1) ≤ r.toInt ∧ r.toInt ≤ 8) ∧ (WHX (CDX g0) r.toInt)) := by
  have hF0 : Fr F_X5_wordHere_176 A_X5_wordHere_176 g0 g0 := Fr.rf
  refine Ev.mk rfl rfl ⟨Nat.le_of_ble_eq_true rfl, Or.inr (q_rc hI0.1 kx_176 rfl)⟩ ?_
  show At _ none _ _ (0, [(0, .ref 176)], [], (_, _)) _
  refine At.enter rfl ?_
  refine r_iconst 0 rfl ?_
  refine r_istore_n ([(1, .int 0), (0, .ref 176)]) rfl ?_
  refine Ar.fall 2 rfl ?_
  have z_1998 : (0 : Int32).toInt = 0 := rfl
  refine w_loopI (fun n_ l_ g_ => ∃ x1987 : Int32, n_ = 9 - x1987.toInt ∧ HI g_ ∧ Fr F_X5_wordHere_176 A_X5_wordHere_176 g0 g_ ∧ en_get 0 l_ = some (.ref 176) ∧ en_get 1 l_ = some (.int x1987) ∧ (0 ≤ x1987.toInt ∧ x1987.toInt ≤ 9) ∧ (WHI (CDX g0) x1987.toInt)) ?_ (9 - 0) ⟨0, by first | rfl | omega, hI0, hF0, rfl, rfl, by decide, (WHI.z (by first | rfl | omega))⟩
  rintro n1992 l1991 g1988 ⟨x1987, hm1999, hI1989, hF1990, e1994, e1995, r1996, q1997⟩ ih1993
  refine At.enter rfl ?_
  refine r_iload_n e1995 ?_
  refine r_bipush 9 rfl ?_
  refine r_ics 8 rfl (fun c2000 => ?_) (fun c2000 => ?_)
  · have c2000_ : x1987.toInt ≥ 9 := en_i_ge_t c2000
    refine At.enter rfl ?_
    refine r_iconst (-1) rfl ?_
    refine r_ireti ?_
    have zv2001 : ((-1) : Int32).toInt = (-1) := rfl
    exact ⟨_, rfl, hI1989, hF1990, _, rfl, by decide, (WHX.no q1997 (by omega) (by omega))⟩
  · have c2000_ : x1987.toInt < 9 := en_i_ge_f c2000
    refine At.enter rfl ?_
    refine r_aload_n e1994 ?_
    refine r_iload_n e1995 ?_
    refine q_inlS 13 rfl [.int x1987] [.ref 176] (Nat.le_of_ble_eq_true rfl) rfl ?_
    refine Ev.mk rfl rfl ⟨Nat.le_of_ble_eq_true rfl, Or.inl rfl⟩ ?_
    show At _ none _ _ (0, [(0, .int x1987)], [], (_, _)) _
    refine At.enter rfl ?_
    refine r_iload_n rfl ?_
    by_cases c2002_0 : x1987.toInt = 0
    · refine r_tsw 52 (by rw [c2002_0]; rfl) ?_
      refine At.enter rfl ?_
      refine r_ldcS (by decide) 5 rfl ?_
      refine q_sret ?_
      refine At.enter rfl ?_
      refine r_callV 16 rfl [.ref 176, .float 5] [] (Nat.le_of_ble_eq_true rfl) rfl (T_X5_isWord_176 _ hI1989 5 (by decide) (TKX.c hT ((hF1990.2.1 175 (by decide))) ((hF1990.1 174 1 (by decide))) ((hF1990.1 176 3 (by decide))) ((hF1990.1 176 4 (by decide))) ((hF1990.1 176 5 (by decide))))) ?_
      rintro _ _ ⟨g2003, rfl, hI2004, hF2005, v2006, rfl, hr2007⟩
      refine At.sti ?_
      have hF2008 := Fr.tr hF1990 hF2005 rfl rfl
      have hb2009 : BL (CDX g0 = 40) v2006.toInt := by have z := ISW.code (c := 40) hr2007.2 (TKX.c hT ((hF1990.2.1 175 (by decide))) ((hF1990.1 174 1 (by decide))) ((hF1990.1 176 3 (by decide))) ((hF1990.1 176 4 (by decide))) ((hF1990.1 176 5 (by decide)))) (isWC_d (by omega)) (by decide +kernel); rw [CDX.c ((hF1990.2.1 175 (by decide))) ((hF1990.1 176 3 (by decide))) ((hF1990.1 176 4 (by decide))) ((hF1990.1 176 5 (by decide)))] at z; exact z
      refine At.enter rfl ?_
      refine r_ifs 19 rfl (fun c2010 => ?_) (fun c2010 => ?_)
      · have c2010_ : v2006.toInt = 0 := en_k_eq_t c2010
        have i2011 := BL.no hb2009 (by omega)
        refine At.enter rfl ?_
        refine q_iinc e1995 (x1987.toInt + 1) rfl (by omega) (fun v2012 hv2012 => ?_)
        refine r_goto ?_
        exact ih1993 (9 - v2012.toInt) _ _ ⟨v2012, by first | rfl | omega, hI2004, hF2008, (w_p1 (by decide) (Or.inr rfl) e1994), (w_e1 _ _ _), by omega, (WHI.st q1997 (show v2012.toInt = x1987.toInt + 1 from by omega) hb2009 (by omega) (by omega))⟩ ⟨by omega, by omega⟩
      · have c2010_ : v2006.toInt ≠ 0 := en_k_eq_f c2010
        have i2013 := BL.yes hb2009 (by omega)
        refine At.enter rfl ?_
        refine r_iload_n e1995 ?_
        refine r_ireti ?_
        exact ⟨_, rfl, hI2004, hF2008, _, rfl, by omega, (WHX.yes (k := x1987.toInt) hb2009 (by omega) (by omega) ⟨by omega, by omega⟩ (by omega))⟩
    by_cases c2002_1 : x1987.toInt = 1
    · refine r_tsw 55 (by rw [c2002_1]; rfl) ?_
      refine At.enter rfl ?_
      refine r_ldcS (by decide) 6 rfl ?_
      refine q_sret ?_
      refine At.enter rfl ?_
      refine r_callV 16 rfl [.ref 176, .float 6] [] (Nat.le_of_ble_eq_true rfl) rfl (T_X5_isWord_176 _ hI1989 6 (by decide) (TKX.c hT ((hF1990.2.1 175 (by decide))) ((hF1990.1 174 1 (by decide))) ((hF1990.1 176 3 (by decide))) ((hF1990.1 176 4 (by decide))) ((hF1990.1 176 5 (by decide))))) ?_
      rintro _ _ ⟨g2014, rfl, hI2015, hF2016, v2017, rfl, hr2018⟩
      refine At.sti ?_
      have hF2019 := Fr.tr hF1990 hF2016 rfl rfl
      have hb2020 : BL (CDX g0 = 41) v2017.toInt := by have z := ISW.code (c := 41) hr2018.2 (TKX.c hT ((hF1990.2.1 175 (by decide))) ((hF1990.1 174 1 (by decide))) ((hF1990.1 176 3 (by decide))) ((hF1990.1 176 4 (by decide))) ((hF1990.1 176 5 (by decide)))) (isWC_d (by omega)) (by decide +kernel); rw [CDX.c ((hF1990.2.1 175 (by decide))) ((hF1990.1 176 3 (by decide))) ((hF1990.1 176 4 (by decide))) ((hF1990.1 176 5 (by decide)))] at z; exact z
      refine At.enter rfl ?_
      refine r_ifs 19 rfl (fun c2021 => ?_) (fun c2021 => ?_)
      · have c2021_ : v2017.toInt = 0 := en_k_eq_t c2021
        have i2022 := BL.no hb2020 (by omega)
        refine At.enter rfl ?_
        refine q_iinc e1995 (x1987.toInt + 1) rfl (by omega) (fun v2023 hv2023 => ?_)
        refine r_goto ?_
        exact ih1993 (9 - v2023.toInt) _ _ ⟨v2023, by first | rfl | omega, hI2015, hF2019, (w_p1 (by decide) (Or.inr rfl) e1994), (w_e1 _ _ _), by omega, (WHI.st q1997 (show v2023.toInt = x1987.toInt + 1 from by omega) hb2020 (by omega) (by omega))⟩ ⟨by omega, by omega⟩
      · have c2021_ : v2017.toInt ≠ 0 := en_k_eq_f c2021
        have i2024 := BL.yes hb2020 (by omega)
        refine At.enter rfl ?_
        refine r_iload_n e1995 ?_
        refine r_ireti ?_
        exact ⟨_, rfl, hI2015, hF2019, _, rfl, by omega, (WHX.yes (k := x1987.toInt) hb2020 (by omega) (by omega) ⟨by omega, by omega⟩ (by omega))⟩
    by_cases c2002_2 : x1987.toInt = 2
    · refine r_tsw 58 (by rw [c2002_2]; rfl) ?_
      refine At.enter rfl ?_
      refine r_ldcS (by decide) 7 rfl ?_
      refine q_sret ?_
      refine At.enter rfl ?_
      refine r_callV 16 rfl [.ref 176, .float 7] [] (Nat.le_of_ble_eq_true rfl) rfl (T_X5_isWord_176 _ hI1989 7 (by decide) (TKX.c hT ((hF1990.2.1 175 (by decide))) ((hF1990.1 174 1 (by decide))) ((hF1990.1 176 3 (by decide))) ((hF1990.1 176 4 (by decide))) ((hF1990.1 176 5 (by decide))))) ?_
      rintro _ _ ⟨g2025, rfl, hI2026, hF2027, v2028, rfl, hr2029⟩
      refine At.sti ?_
      have hF2030 := Fr.tr hF1990 hF2027 rfl rfl
      have hb2031 : BL (CDX g0 = 42) v2028.toInt := by have z := ISW.code (c := 42) hr2029.2 (TKX.c hT ((hF1990.2.1 175 (by decide))) ((hF1990.1 174 1 (by decide))) ((hF1990.1 176 3 (by decide))) ((hF1990.1 176 4 (by decide))) ((hF1990.1 176 5 (by decide)))) (isWC_d (by omega)) (by decide +kernel); rw [CDX.c ((hF1990.2.1 175 (by decide))) ((hF1990.1 176 3 (by decide))) ((hF1990.1 176 4 (by decide))) ((hF1990.1 176 5 (by decide)))] at z; exact z
      refine At.enter rfl ?_
      refine r_ifs 19 rfl (fun c2032 => ?_) (fun c2032 => ?_)
      · have c2032_ : v2028.toInt = 0 := en_k_eq_t c2032
        have i2033 := BL.no hb2031 (by omega)
        refine At.enter rfl ?_
        refine q_iinc e1995 (x1987.toInt + 1) rfl (by omega) (fun v2034 hv2034 => ?_)
        refine r_goto ?_
        exact ih1993 (9 - v2034.toInt) _ _ ⟨v2034, by first | rfl | omega, hI2026, hF2030, (w_p1 (by decide) (Or.inr rfl) e1994), (w_e1 _ _ _), by omega, (WHI.st q1997 (show v2034.toInt = x1987.toInt + 1 from by omega) hb2031 (by omega) (by omega))⟩ ⟨by omega, by omega⟩
      · have c2032_ : v2028.toInt ≠ 0 := en_k_eq_f c2032
        have i2035 := BL.yes hb2031 (by omega)
        refine At.enter rfl ?_
        refine r_iload_n e1995 ?_
        refine r_ireti ?_
        exact ⟨_, rfl, hI2026, hF2030, _, rfl, by omega, (WHX.yes (k := x1987.toInt) hb2031 (by omega) (by omega) ⟨by omega, by omega⟩ (by omega))⟩
    by_cases c2002_3 : x1987.toInt = 3
    · refine r_tsw 61 (by rw [c2002_3]; rfl) ?_
      refine At.enter rfl ?_
      refine r_ldcS (by decide) 8 rfl ?_
      refine q_sret ?_
      refine At.enter rfl ?_
      refine r_callV 16 rfl [.ref 176, .float 8] [] (Nat.le_of_ble_eq_true rfl) rfl (T_X5_isWord_176 _ hI1989 8 (by decide) (TKX.c hT ((hF1990.2.1 175 (by decide))) ((hF1990.1 174 1 (by decide))) ((hF1990.1 176 3 (by decide))) ((hF1990.1 176 4 (by decide))) ((hF1990.1 176 5 (by decide))))) ?_
      rintro _ _ ⟨g2036, rfl, hI2037, hF2038, v2039, rfl, hr2040⟩
      refine At.sti ?_
      have hF2041 := Fr.tr hF1990 hF2038 rfl rfl
      have hb2042 : BL (CDX g0 = 43) v2039.toInt := by have z := ISW.code (c := 43) hr2040.2 (TKX.c hT ((hF1990.2.1 175 (by decide))) ((hF1990.1 174 1 (by decide))) ((hF1990.1 176 3 (by decide))) ((hF1990.1 176 4 (by decide))) ((hF1990.1 176 5 (by decide)))) (isWC_d (by omega)) (by decide +kernel); rw [CDX.c ((hF1990.2.1 175 (by decide))) ((hF1990.1 176 3 (by decide))) ((hF1990.1 176 4 (by decide))) ((hF1990.1 176 5 (by decide)))] at z; exact z
      refine At.enter rfl ?_
      refine r_ifs 19 rfl (fun c2043 => ?_) (fun c2043 => ?_)
      · have c2043_ : v2039.toInt = 0 := en_k_eq_t c2043
        have i2044 := BL.no hb2042 (by omega)
        refine At.enter rfl ?_
        refine q_iinc e1995 (x1987.toInt + 1) rfl (by omega) (fun v2045 hv2045 => ?_)
        refine r_goto ?_
        exact ih1993 (9 - v2045.toInt) _ _ ⟨v2045, by first | rfl | omega, hI2037, hF2041, (w_p1 (by decide) (Or.inr rfl) e1994), (w_e1 _ _ _), by omega, (WHI.st q1997 (show v2045.toInt = x1987.toInt + 1 from by omega) hb2042 (by omega) (by omega))⟩ ⟨by omega, by omega⟩
      · have c2043_ : v2039.toInt ≠ 0 := en_k_eq_f c2043
        have i2046 := BL.yes hb2042 (by omega)
        refine At.enter rfl ?_
        refine r_iload_n e1995 ?_
        refine r_ireti ?_
        exact ⟨_, rfl, hI2037, hF2041, _, rfl, by omega, (WHX.yes (k := x1987.toInt) hb2042 (by omega) (by omega) ⟨by omega, by omega⟩ (by omega))⟩
    by_cases c2002_4 : x1987.toInt = 4
    · refine r_tsw 64 (by rw [c2002_4]; rfl) ?_
      refine At.enter rfl ?_
      refine r_ldcS (by decide) 9 rfl ?_
      refine q_sret ?_
      refine At.enter rfl ?_
      refine r_callV 16 rfl [.ref 176, .float 9] [] (Nat.le_of_ble_eq_true rfl) rfl (T_X5_isWord_176 _ hI1989 9 (by decide) (TKX.c hT ((hF1990.2.1 175 (by decide))) ((hF1990.1 174 1 (by decide))) ((hF1990.1 176 3 (by decide))) ((hF1990.1 176 4 (by decide))) ((hF1990.1 176 5 (by decide))))) ?_
      rintro _ _ ⟨g2047, rfl, hI2048, hF2049, v2050, rfl, hr2051⟩
      refine At.sti ?_
      have hF2052 := Fr.tr hF1990 hF2049 rfl rfl
      have hb2053 : BL (CDX g0 = 44) v2050.toInt := by have z := ISW.code (c := 44) hr2051.2 (TKX.c hT ((hF1990.2.1 175 (by decide))) ((hF1990.1 174 1 (by decide))) ((hF1990.1 176 3 (by decide))) ((hF1990.1 176 4 (by decide))) ((hF1990.1 176 5 (by decide)))) (isWC_d (by omega)) (by decide +kernel); rw [CDX.c ((hF1990.2.1 175 (by decide))) ((hF1990.1 176 3 (by decide))) ((hF1990.1 176 4 (by decide))) ((hF1990.1 176 5 (by decide)))] at z; exact z
      refine At.enter rfl ?_
      refine r_ifs 19 rfl (fun c2054 => ?_) (fun c2054 => ?_)
      · have c2054_ : v2050.toInt = 0 := en_k_eq_t c2054
        have i2055 := BL.no hb2053 (by omega)
        refine At.enter rfl ?_
        refine q_iinc e1995 (x1987.toInt + 1) rfl (by omega) (fun v2056 hv2056 => ?_)
        refine r_goto ?_
        exact ih1993 (9 - v2056.toInt) _ _ ⟨v2056, by first | rfl | omega, hI2048, hF2052, (w_p1 (by decide) (Or.inr rfl) e1994), (w_e1 _ _ _), by omega, (WHI.st q1997 (show v2056.toInt = x1987.toInt + 1 from by omega) hb2053 (by omega) (by omega))⟩ ⟨by omega, by omega⟩
      · have c2054_ : v2050.toInt ≠ 0 := en_k_eq_f c2054
        have i2057 := BL.yes hb2053 (by omega)
        refine At.enter rfl ?_
        refine r_iload_n e1995 ?_
        refine r_ireti ?_
        exact ⟨_, rfl, hI2048, hF2052, _, rfl, by omega, (WHX.yes (k := x1987.toInt) hb2053 (by omega) (by omega) ⟨by omega, by omega⟩ (by omega))⟩
    by_cases c2002_5 : x1987.toInt = 5
    · refine r_tsw 67 (by rw [c2002_5]; rfl) ?_
      refine At.enter rfl ?_
      refine r_ldcS (by decide) 10 rfl ?_
      refine q_sret ?_
      refine At.enter rfl ?_
      refine r_callV 16 rfl [.ref 176, .float 10] [] (Nat.le_of_ble_eq_true rfl) rfl (T_X5_isWord_176 _ hI1989 10 (by decide) (TKX.c hT ((hF1990.2.1 175 (by decide))) ((hF1990.1 174 1 (by decide))) ((hF1990.1 176 3 (by decide))) ((hF1990.1 176 4 (by decide))) ((hF1990.1 176 5 (by decide))))) ?_
      rintro _ _ ⟨g2058, rfl, hI2059, hF2060, v2061, rfl, hr2062⟩
      refine At.sti ?_
      have hF2063 := Fr.tr hF1990 hF2060 rfl rfl
      have hb2064 : BL (CDX g0 = 45) v2061.toInt := by have z := ISW.code (c := 45) hr2062.2 (TKX.c hT ((hF1990.2.1 175 (by decide))) ((hF1990.1 174 1 (by decide))) ((hF1990.1 176 3 (by decide))) ((hF1990.1 176 4 (by decide))) ((hF1990.1 176 5 (by decide)))) (isWC_d (by omega)) (by decide +kernel); rw [CDX.c ((hF1990.2.1 175 (by decide))) ((hF1990.1 176 3 (by decide))) ((hF1990.1 176 4 (by decide))) ((hF1990.1 176 5 (by decide)))] at z; exact z
      refine At.enter rfl ?_
      refine r_ifs 19 rfl (fun c2065 => ?_) (fun c2065 => ?_)
      · have c2065_ : v2061.toInt = 0 := en_k_eq_t c2065
        have i2066 := BL.no hb2064 (by omega)
        refine At.enter rfl ?_
        refine q_iinc e1995 (x1987.toInt + 1) rfl (by omega) (fun v2067 hv2067 => ?_)
        refine r_goto ?_
        exact ih1993 (9 - v2067.toInt) _ _ ⟨v2067, by first | rfl | omega, hI2059, hF2063, (w_p1 (by decide) (Or.inr rfl) e1994), (w_e1 _ _ _), by omega, (WHI.st q1997 (show v2067.toInt = x1987.toInt + 1 from by omega) hb2064 (by omega) (by omega))⟩ ⟨by omega, by omega⟩
      · have c2065_ : v2061.toInt ≠ 0 := en_k_eq_f c2065
        have i2068 := BL.yes hb2064 (by omega)
        refine At.enter rfl ?_
        refine r_iload_n e1995 ?_
        refine r_ireti ?_
        exact ⟨_, rfl, hI2059, hF2063, _, rfl, by omega, (WHX.yes (k := x1987.toInt) hb2064 (by omega) (by omega) ⟨by omega, by omega⟩ (by omega))⟩
    by_cases c2002_6 : x1987.toInt = 6
    · refine r_tsw 70 (by rw [c2002_6]; rfl) ?_
      refine At.enter rfl ?_
      refine r_ldcS (by decide) 11 rfl ?_
      refine q_sret ?_
      refine At.enter rfl ?_
      refine r_callV 16 rfl [.ref 176, .float 11] [] (Nat.le_of_ble_eq_true rfl) rfl (T_X5_isWord_176 _ hI1989 11 (by decide) (TKX.c hT ((hF1990.2.1 175 (by decide))) ((hF1990.1 174 1 (by decide))) ((hF1990.1 176 3 (by decide))) ((hF1990.1 176 4 (by decide))) ((hF1990.1 176 5 (by decide))))) ?_
      rintro _ _ ⟨g2069, rfl, hI2070, hF2071, v2072, rfl, hr2073⟩
      refine At.sti ?_
      have hF2074 := Fr.tr hF1990 hF2071 rfl rfl
      have hb2075 : BL (CDX g0 = 46) v2072.toInt := by have z := ISW.code (c := 46) hr2073.2 (TKX.c hT ((hF1990.2.1 175 (by decide))) ((hF1990.1 174 1 (by decide))) ((hF1990.1 176 3 (by decide))) ((hF1990.1 176 4 (by decide))) ((hF1990.1 176 5 (by decide)))) (isWC_d (by omega)) (by decide +kernel); rw [CDX.c ((hF1990.2.1 175 (by decide))) ((hF1990.1 176 3 (by decide))) ((hF1990.1 176 4 (by decide))) ((hF1990.1 176 5 (by decide)))] at z; exact z
      refine At.enter rfl ?_
      refine r_ifs 19 rfl (fun c2076 => ?_) (fun c2076 => ?_)
      · have c2076_ : v2072.toInt = 0 := en_k_eq_t c2076
        have i2077 := BL.no hb2075 (by omega)
        refine At.enter rfl ?_
        refine q_iinc e1995 (x1987.toInt + 1) rfl (by omega) (fun v2078 hv2078 => ?_)
        refine r_goto ?_
        exact ih1993 (9 - v2078.toInt) _ _ ⟨v2078, by first | rfl | omega, hI2070, hF2074, (w_p1 (by decide) (Or.inr rfl) e1994), (w_e1 _ _ _), by omega, (WHI.st q1997 (show v2078.toInt = x1987.toInt + 1 from by omega) hb2075 (by omega) (by omega))⟩ ⟨by omega, by omega⟩
      · have c2076_ : v2072.toInt ≠ 0 := en_k_eq_f c2076
        have i2079 := BL.yes hb2075 (by omega)
        refine At.enter rfl ?_
        refine r_iload_n e1995 ?_
        refine r_ireti ?_
        exact ⟨_, rfl, hI2070, hF2074, _, rfl, by omega, (WHX.yes (k := x1987.toInt) hb2075 (by omega) (by omega) ⟨by omega, by omega⟩ (by omega))⟩
    by_cases c2002_7 : x1987.toInt = 7
    · refine r_tsw 73 (by rw [c2002_7]; rfl) ?_
      refine At.enter rfl ?_
      refine r_ldcS (by decide) 12 rfl ?_
      refine q_sret ?_
      refine At.enter rfl ?_
      refine r_callV 16 rfl [.ref 176, .float 12] [] (Nat.le_of_ble_eq_true rfl) rfl (T_X5_isWord_176 _ hI1989 12 (by decide) (TKX.c hT ((hF1990.2.1 175 (by decide))) ((hF1990.1 174 1 (by decide))) ((hF1990.1 176 3 (by decide))) ((hF1990.1 176 4 (by decide))) ((hF1990.1 176 5 (by decide))))) ?_
      rintro _ _ ⟨g2080, rfl, hI2081, hF2082, v2083, rfl, hr2084⟩
      refine At.sti ?_
      have hF2085 := Fr.tr hF1990 hF2082 rfl rfl
      have hb2086 : BL (CDX g0 = 47) v2083.toInt := by have z := ISW.code (c := 47) hr2084.2 (TKX.c hT ((hF1990.2.1 175 (by decide))) ((hF1990.1 174 1 (by decide))) ((hF1990.1 176 3 (by decide))) ((hF1990.1 176 4 (by decide))) ((hF1990.1 176 5 (by decide)))) (isWC_d (by omega)) (by decide +kernel); rw [CDX.c ((hF1990.2.1 175 (by decide))) ((hF1990.1 176 3 (by decide))) ((hF1990.1 176 4 (by decide))) ((hF1990.1 176 5 (by decide)))] at z; exact z
      refine At.enter rfl ?_
      refine r_ifs 19 rfl (fun c2087 => ?_) (fun c2087 => ?_)
      · have c2087_ : v2083.toInt = 0 := en_k_eq_t c2087
        have i2088 := BL.no hb2086 (by omega)
        refine At.enter rfl ?_
        refine q_iinc e1995 (x1987.toInt + 1) rfl (by omega) (fun v2089 hv2089 => ?_)
        refine r_goto ?_
        exact ih1993 (9 - v2089.toInt) _ _ ⟨v2089, by first | rfl | omega, hI2081, hF2085, (w_p1 (by decide) (Or.inr rfl) e1994), (w_e1 _ _ _), by omega, (WHI.st q1997 (show v2089.toInt = x1987.toInt + 1 from by omega) hb2086 (by omega) (by omega))⟩ ⟨by omega, by omega⟩
      · have c2087_ : v2083.toInt ≠ 0 := en_k_eq_f c2087
        have i2090 := BL.yes hb2086 (by omega)
        refine At.enter rfl ?_
        refine r_iload_n e1995 ?_
        refine r_ireti ?_
        exact ⟨_, rfl, hI2081, hF2085, _, rfl, by omega, (WHX.yes (k := x1987.toInt) hb2086 (by omega) (by omega) ⟨by omega, by omega⟩ (by omega))⟩
    by_cases c2002_8 : x1987.toInt = 8
    · refine r_tsw 76 (by rw [c2002_8]; rfl) ?_
      refine At.enter rfl ?_
      refine r_ldcS (by decide) 13 rfl ?_
      refine q_sret ?_
      refine At.enter rfl ?_
      refine r_callV 16 rfl [.ref 176, .float 13] [] (Nat.le_of_ble_eq_true rfl) rfl (T_X5_isWord_176 _ hI1989 13 (by decide) (TKX.c hT ((hF1990.2.1 175 (by decide))) ((hF1990.1 174 1 (by decide))) ((hF1990.1 176 3 (by decide))) ((hF1990.1 176 4 (by decide))) ((hF1990.1 176 5 (by decide))))) ?_
      rintro _ _ ⟨g2091, rfl, hI2092, hF2093, v2094, rfl, hr2095⟩
      refine At.sti ?_
      have hF2096 := Fr.tr hF1990 hF2093 rfl rfl
      have hb2097 : BL (CDX g0 = 48) v2094.toInt := by have z := ISW.code (c := 48) hr2095.2 (TKX.c hT ((hF1990.2.1 175 (by decide))) ((hF1990.1 174 1 (by decide))) ((hF1990.1 176 3 (by decide))) ((hF1990.1 176 4 (by decide))) ((hF1990.1 176 5 (by decide)))) (isWC_d (by omega)) (by decide +kernel); rw [CDX.c ((hF1990.2.1 175 (by decide))) ((hF1990.1 176 3 (by decide))) ((hF1990.1 176 4 (by decide))) ((hF1990.1 176 5 (by decide)))] at z; exact z
      refine At.enter rfl ?_
      refine r_ifs 19 rfl (fun c2098 => ?_) (fun c2098 => ?_)
      · have c2098_ : v2094.toInt = 0 := en_k_eq_t c2098
        have i2099 := BL.no hb2097 (by omega)
        refine At.enter rfl ?_
        refine q_iinc e1995 (x1987.toInt + 1) rfl (by omega) (fun v2100 hv2100 => ?_)
        refine r_goto ?_
        exact ih1993 (9 - v2100.toInt) _ _ ⟨v2100, by first | rfl | omega, hI2092, hF2096, (w_p1 (by decide) (Or.inr rfl) e1994), (w_e1 _ _ _), by omega, (WHI.st q1997 (show v2100.toInt = x1987.toInt + 1 from by omega) hb2097 (by omega) (by omega))⟩ ⟨by omega, by omega⟩
      · have c2098_ : v2094.toInt ≠ 0 := en_k_eq_f c2098
        have i2101 := BL.yes hb2097 (by omega)
        refine At.enter rfl ?_
        refine r_iload_n e1995 ?_
        refine r_ireti ?_
        exact ⟨_, rfl, hI2092, hF2096, _, rfl, by omega, (WHX.yes (k := x1987.toInt) hb2097 (by omega) (by omega) ⟨by omega, by omega⟩ (by omega))⟩
    exfalso; omega

def F_rd : List (Nat × Nat) := [(176, 2), (176, 3), (176, 4), (176, 5), (176, 6), (177, 0)]
def A_rd : List Nat := [178, 179]

def F_X5_joinHere_176 : List (Nat × Nat) := []
def A_X5_joinHere_176 : List Nat := []
theorem ma_X5_isSingle_176_175 : memA A_X5_isSingle_176 175 = false := by decide
theorem mf_X5_isSingle_176_174_1 : memF F_X5_isSingle_176 174 1 = false := by decide
theorem mf_X5_isSingle_176_176_3 : memF F_X5_isSingle_176 176 3 = false := by decide
theorem mf_X5_isSingle_176_176_4 : memF F_X5_isSingle_176 176 4 = false := by decide
theorem mf_X5_isSingle_176_176_5 : memF F_X5_isSingle_176 176 5 = false := by decide
set_option maxRecDepth 100000 in
set_option maxHeartbeats 4000000 in
theorem T_X5_joinHere_176 (d : Nat) {N : Nat} {g0 : List en_E} (hI0 : HI g0) (a1 : Int32) (h_a1 : 0 ≤ a1.toInt ∧ a1.toInt ≤ 3) (hT : TKX g0) : Ev (d + 3) 66 [.ref 176, .int a1] (g0, N) (fun w h' => ∃ g', h' = (g', N) ∧ HI g' ∧ Fr F_X5_joinHere_176 A_X5_joinHere_176 g0 g' ∧ ∃ r : Int32, w = some (.int r) ∧ ((-1) ≤ r.toInt ∧ r.toInt ≤ 11) ∧ (BLN (JN a1.toInt (CDX g0)) r.toInt ∧ (r.toInt ≠ -1 → r.toInt = CDX g0 - 18))) := by
  have hF0 : Fr F_X5_joinHere_176 A_X5_joinHere_176 g0 g0 := Fr.rf
  refine Ev.mk rfl rfl ⟨Nat.le_of_ble_eq_true rfl, Or.inr (q_rc hI0.1 kx_176 rfl)⟩ ?_
  show At _ none _ _ (0, [(0, .ref 176), (1, .int a1)], [], (_, _)) _
  refine At.enter rfl ?_
  refine r_iload_n rfl ?_
  by_cases c133_0 : a1.toInt = 0
  · refine r_tsw 28 (by rw [c133_0]; rfl) ?_
    refine At.enter rfl ?_
    refine r_aload_n rfl ?_
    refine r_ldcS (by decide) 15 rfl ?_
    refine r_callV 34 rfl [.ref 176, .float 15] [] (Nat.le_of_ble_eq_true rfl) rfl (T_X5_isWord_176 _ hI0 15 (by decide) hT) ?_
    rintro _ _ ⟨g134, rfl, hI135, hF136, v137, rfl, hr138⟩
    refine At.sti ?_
    have hF139 := Fr.tr hF0 hF136 rfl rfl
    have hb140 : BL (CDX g0 = 29) v137.toInt := ISW.code (c := 29) hr138.2 hT (isWC_d (by omega)) (by decide +kernel)
    refine At.enter rfl ?_
    refine r_ifs 37 rfl (fun c141 => ?_) (fun c141 => ?_)
    · have c141_ : v137.toInt = 0 := en_k_eq_t c141
      have i142 := BL.no hb140 (by omega)
      refine At.enter rfl ?_
      refine r_iconst (-1) rfl ?_
      refine Ar.fall 43 rfl ?_
      refine At.enter rfl ?_
      refine r_ireti ?_
      have zv143 : ((-1) : Int32).toInt = (-1) := rfl
      exact ⟨_, rfl, hI135, hF139, _, rfl, by decide, ⟨(JNX.r0 (by omega) (Or.inl ⟨by omega, by omega⟩)), fun _ => by omega⟩⟩
    · have c141_ : v137.toInt ≠ 0 := en_k_eq_f c141
      have i144 := BL.yes hb140 (by omega)
      refine At.enter rfl ?_
      refine r_bipush 11 rfl ?_
      refine r_goto ?_
      refine At.enter rfl ?_
      refine r_ireti ?_
      have zv145 : (11 : Int32).toInt = 11 := rfl
      exact ⟨_, rfl, hI135, hF139, _, rfl, by decide, ⟨(JNX.r0 (by omega) (Or.inr ⟨by omega, by omega⟩)), fun _ => by omega⟩⟩
  by_cases c133_1 : a1.toInt = 1
  · refine r_tsw 44 (by rw [c133_1]; rfl) ?_
    refine At.enter rfl ?_
    refine r_aload_n rfl ?_
    refine r_ldcS (by decide) 16 rfl ?_
    refine r_callV 50 rfl [.ref 176, .float 16] [] (Nat.le_of_ble_eq_true rfl) rfl (T_X5_isWord_176 _ hI0 16 (by decide) hT) ?_
    rintro _ _ ⟨g146, rfl, hI147, hF148, v149, rfl, hr150⟩
    refine At.sti ?_
    have hF151 := Fr.tr hF0 hF148 rfl rfl
    have hb152 : BL (CDX g0 = 28) v149.toInt := ISW.code (c := 28) hr150.2 hT (isWC_d (by omega)) (by decide +kernel)
    refine At.enter rfl ?_
    refine r_ifs 53 rfl (fun c153 => ?_) (fun c153 => ?_)
    · have c153_ : v149.toInt = 0 := en_k_eq_t c153
      have i154 := BL.no hb152 (by omega)
      refine At.enter rfl ?_
      refine r_iconst (-1) rfl ?_
      refine Ar.fall 59 rfl ?_
      refine At.enter rfl ?_
      refine r_ireti ?_
      have zv155 : ((-1) : Int32).toInt = (-1) := rfl
      exact ⟨_, rfl, hI147, hF151, _, rfl, by decide, ⟨(JNX.r1 (by omega) (Or.inl ⟨by omega, by omega⟩)), fun _ => by omega⟩⟩
    · have c153_ : v149.toInt ≠ 0 := en_k_eq_f c153
      have i156 := BL.yes hb152 (by omega)
      refine At.enter rfl ?_
      refine r_bipush 10 rfl ?_
      refine r_goto ?_
      refine At.enter rfl ?_
      refine r_ireti ?_
      have zv157 : (10 : Int32).toInt = 10 := rfl
      exact ⟨_, rfl, hI147, hF151, _, rfl, by decide, ⟨(JNX.r1 (by omega) (Or.inr ⟨by omega, by omega⟩)), fun _ => by omega⟩⟩
  by_cases c133_2 : a1.toInt = 2
  · refine r_tsw 60 (by rw [c133_2]; rfl) ?_
    refine At.enter rfl ?_
    refine r_aload_n rfl ?_
    refine r_bipush 43 rfl ?_
    refine r_callV 66 rfl [.ref 176, .int 43] [] (Nat.le_of_ble_eq_true rfl) rfl (T_X5_isSingle_176 _ hI0 43 (by decide)) ?_
    rintro _ _ ⟨g158, rfl, hI159, hF160, v161, rfl, hr162⟩
    refine At.sti ?_
    have hF163 := Fr.tr hF0 hF160 rfl rfl
    have zv164 : (43 : Int32).toInt = 43 := rfl
    have hb165 : BL (CDX g0 = 20) v161.toInt := ISX.code (c := 20) hr162.2 hT (isSC_d (by omega)) (by decide)
    refine At.enter rfl ?_
    refine r_ifs 69 rfl (fun c166 => ?_) (fun c166 => ?_)
    · have c166_ : v161.toInt = 0 := en_k_eq_t c166
      have i167 := BL.no hb165 (by omega)
      refine At.enter rfl ?_
      refine r_aload_n rfl ?_
      refine r_bipush 45 rfl ?_
      refine r_callV 79 rfl [.ref 176, .int 45] [] (Nat.le_of_ble_eq_true rfl) rfl (T_X5_isSingle_176 _ hI159 45 (by decide)) ?_
      rintro _ _ ⟨g168, rfl, hI169, hF170, v171, rfl, hr172⟩
      refine At.sti ?_
      have hF173 := Fr.tr hF163 hF170 rfl rfl
      have zv174 : (45 : Int32).toInt = 45 := rfl
      have hb175 : BL (CDX g0 = 21) v171.toInt := by have z := ISX.code (c := 21) hr172.2 (TKX.c hT ((hF160.2.1 175 ma_X5_isSingle_176_175)) ((hF160.1 174 1 mf_X5_isSingle_176_174_1)) ((hF160.1 176 3 mf_X5_isSingle_176_176_3)) ((hF160.1 176 4 mf_X5_isSingle_176_176_4)) ((hF160.1 176 5 mf_X5_isSingle_176_176_5))) (isSC_d (by omega)) (by decide); rw [CDX.c ((hF160.2.1 175 ma_X5_isSingle_176_175)) ((hF160.1 176 3 mf_X5_isSingle_176_176_3)) ((hF160.1 176 4 mf_X5_isSingle_176_176_4)) ((hF160.1 176 5 mf_X5_isSingle_176_176_5))] at z; exact z
      refine At.enter rfl ?_
      refine r_ifs 82 rfl (fun c176 => ?_) (fun c176 => ?_)
      · have c176_ : v171.toInt = 0 := en_k_eq_t c176
        have i177 := BL.no hb175 (by omega)
        refine At.enter rfl ?_
        refine r_iconst (-1) rfl ?_
        refine Ar.fall 87 rfl ?_
        refine At.enter rfl ?_
        refine r_ireti ?_
        have zv178 : ((-1) : Int32).toInt = (-1) := rfl
        exact ⟨_, rfl, hI169, hF173, _, rfl, by decide, ⟨(JNX.r2 (by omega) (Or.inl ⟨by omega, by omega, by omega⟩)), fun _ => by omega⟩⟩
      · have c176_ : v171.toInt ≠ 0 := en_k_eq_f c176
        have i179 := BL.yes hb175 (by omega)
        refine At.enter rfl ?_
        refine r_iconst 3 rfl ?_
        refine r_goto ?_
        refine At.enter rfl ?_
        refine r_ireti ?_
        have zv180 : (3 : Int32).toInt = 3 := rfl
        exact ⟨_, rfl, hI169, hF173, _, rfl, by decide, ⟨(JNX.r2 (by omega) (Or.inr ⟨by omega, by omega, by omega⟩)), fun _ => by omega⟩⟩
    · have c166_ : v161.toInt ≠ 0 := en_k_eq_f c166
      have i181 := BL.yes hb165 (by omega)
      refine At.enter rfl ?_
      refine r_iconst 2 rfl ?_
      refine r_goto ?_
      refine At.enter rfl ?_
      refine r_ireti ?_
      have zv182 : (2 : Int32).toInt = 2 := rfl
      exact ⟨_, rfl, hI159, hF163, _, rfl, by decide, ⟨(JNX.r2 (by omega) (Or.inr ⟨by omega, by omega, by omega⟩)), fun _ => by omega⟩⟩
  have c183 : a1.toInt < 0 ∨ 2 < a1.toInt := by omega
  refine r_tsw 88 (by unfold en_sw; rw [if_pos c183]; rfl) ?_
  refine At.enter rfl ?_
  refine r_aload_n rfl ?_
  refine r_bipush 42 rfl ?_
  refine r_callV 94 rfl [.ref 176, .int 42] [] (Nat.le_of_ble_eq_true rfl) rfl (T_X5_isSingle_176 _ hI0 42 (by decide)) ?_
  rintro _ _ ⟨g184, rfl, hI185, hF186, v187, rfl, hr188⟩
  refine At.sti ?_
  have hF189 := Fr.tr hF0 hF186 rfl rfl
  have zv190 : (42 : Int32).toInt = 42 := rfl
  have hb191 : BL (CDX g0 = 22) v187.toInt := ISX.code (c := 22) hr188.2 hT (isSC_d (by omega)) (by decide)
  refine At.enter rfl ?_
  refine r_ifs 97 rfl (fun c192 => ?_) (fun c192 => ?_)
  · have c192_ : v187.toInt = 0 := en_k_eq_t c192
    have i193 := BL.no hb191 (by omega)
    refine At.enter rfl ?_
    refine r_aload_n rfl ?_
    refine r_bipush 47 rfl ?_
    refine r_callV 107 rfl [.ref 176, .int 47] [] (Nat.le_of_ble_eq_true rfl) rfl (T_X5_isSingle_176 _ hI185 47 (by decide)) ?_
    rintro _ _ ⟨g194, rfl, hI195, hF196, v197, rfl, hr198⟩
    refine At.sti ?_
    have hF199 := Fr.tr hF189 hF196 rfl rfl
    have zv200 : (47 : Int32).toInt = 47 := rfl
    have hb201 : BL (CDX g0 = 23) v197.toInt := by have z := ISX.code (c := 23) hr198.2 (TKX.c hT ((hF186.2.1 175 ma_X5_isSingle_176_175)) ((hF186.1 174 1 mf_X5_isSingle_176_174_1)) ((hF186.1 176 3 mf_X5_isSingle_176_176_3)) ((hF186.1 176 4 mf_X5_isSingle_176_176_4)) ((hF186.1 176 5 mf_X5_isSingle_176_176_5))) (isSC_d (by omega)) (by decide); rw [CDX.c ((hF186.2.1 175 ma_X5_isSingle_176_175)) ((hF186.1 176 3 mf_X5_isSingle_176_176_3)) ((hF186.1 176 4 mf_X5_isSingle_176_176_4)) ((hF186.1 176 5 mf_X5_isSingle_176_176_5))] at z; exact z
    refine At.enter rfl ?_
    refine r_ifs 110 rfl (fun c202 => ?_) (fun c202 => ?_)
    · have c202_ : v197.toInt = 0 := en_k_eq_t c202
      have i203 := BL.no hb201 (by omega)
      refine At.enter rfl ?_
      refine r_iconst (-1) rfl ?_
      refine Ar.fall 115 rfl ?_
      refine At.enter rfl ?_
      refine r_ireti ?_
      have zv204 : ((-1) : Int32).toInt = (-1) := rfl
      exact ⟨_, rfl, hI195, hF199, _, rfl, by decide, ⟨(JNX.r3 (by omega) (Or.inl ⟨by omega, by omega, by omega⟩)), fun _ => by omega⟩⟩
    · have c202_ : v197.toInt ≠ 0 := en_k_eq_f c202
      have i205 := BL.yes hb201 (by omega)
      refine At.enter rfl ?_
      refine r_iconst 5 rfl ?_
      refine r_goto ?_
      refine At.enter rfl ?_
      refine r_ireti ?_
      have zv206 : (5 : Int32).toInt = 5 := rfl
      exact ⟨_, rfl, hI195, hF199, _, rfl, by decide, ⟨(JNX.r3 (by omega) (Or.inr ⟨by omega, by omega, by omega⟩)), fun _ => by omega⟩⟩
  · have c192_ : v187.toInt ≠ 0 := en_k_eq_f c192
    have i207 := BL.yes hb191 (by omega)
    refine At.enter rfl ?_
    refine r_iconst 4 rfl ?_
    refine r_goto ?_
    refine At.enter rfl ?_
    refine r_ireti ?_
    have zv208 : (4 : Int32).toInt = 4 := rfl
    exact ⟨_, rfl, hI185, hF189, _, rfl, by decide, ⟨(JNX.r3 (by omega) (Or.inr ⟨by omega, by omega, by omega⟩)), fun _ => by omega⟩⟩
