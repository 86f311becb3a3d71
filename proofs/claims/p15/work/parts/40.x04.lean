def F_X3_worth_185 : List (Nat × Nat) := [(185, 3)]
def A_X3_worth_185 : List Nat := []
set_option maxRecDepth 100000 in
set_option maxHeartbeats 4000000 in
theorem T_X3_worth_185 (d : Nat) {N : Nat} {g0 : List en_E} (hI0 : HI g0) (q1 : Nat) (hq1 : Lw q1) (a2 : Int32) (a3 : Int32) : Ev (d + 2) 53 [.ref 185, .ref (q1), .int a2, .int a3] (g0, N) (fun w h' => ∃ g', h' = (g', N) ∧ HI g' ∧ Fr F_X3_worth_185 A_X3_worth_185 g0 g' ∧ ∃ r : Int64, w = some (.long r) ∧ True) := by
  have hF0 : Fr F_X3_worth_185 A_X3_worth_185 g0 g0 := Fr.rf
  refine Ev.mk rfl rfl ⟨Nat.le_of_ble_eq_true rfl, Or.inr (q_rc hI0.1 kx_185 rfl)⟩ ?_
  show At _ none _ _ (0, [(0, .ref 185), (1, .ref (q1)), (2, .int a2), (3, .int a3)], [], (_, _)) _
  refine At.enter rfl ?_
  refine r_aload_n rfl ?_
  refine r_iconst 0 rfl ?_
  refine q_putI (Sh.int hI0.1 kx_185 rfl) rfl ?_
  have hI3399 := HI.wI0 hI0 kx_185 rfl (p := 185) (b := 3) (v := 0) rfl
  have hF3400 := Fr.wI (p := 185) (b := 3) (v := 0) hF0 rfl
  refine r_iload_n rfl ?_
  refine r_sipush 400 rfl ?_
  refine q_mmin rfl (Nat.le_of_ble_eq_true rfl) (fun v3401 hv3401 => ?_)
  have zv3402 : (400 : Int32).toInt = 400 := rfl
  refine r_istore ([(4, .int v3401), (0, .ref 185), (1, .ref (q1)), (2, .int a2), (3, .int a3)]) rfl ?_
  refine r_iconst 0 rfl ?_
  refine r_iload_n rfl ?_
  refine q_mmax rfl (Nat.le_of_ble_eq_true rfl) (fun v3403 hv3403 => ?_)
  have zv3404 : (0 : Int32).toInt = 0 := rfl
  refine r_istore ([(5, .int v3403), (4, .int v3401), (0, .ref 185), (1, .ref (q1)), (2, .int a2), (3, .int a3)]) rfl ?_
  refine r_iconst 0 rfl ?_
  refine r_istore ([(6, .int 0), (5, .int v3403), (4, .int v3401), (0, .ref 185), (1, .ref (q1)), (2, .int a2), (3, .int a3)]) rfl ?_
  refine r_iconst 0 rfl ?_
  refine r_istore ([(7, .int 0), (6, .int 0), (5, .int v3403), (4, .int v3401), (0, .ref 185), (1, .ref (q1)), (2, .int a2), (3, .int a3)]) rfl ?_
  refine Ar.fall 27 rfl ?_
  have z_4995 : (0 : Int32).toInt = 0 := rfl
  have z_4996 : (0 : Int32).toInt = 0 := rfl
  refine w_loopI (fun n_ l_ g_ => ∃ x4975 : Int32, ∃ x4976 : Int32, ∃ x4977 : Int32, n_ = 400 - x4977.toInt ∧ HI g_ ∧ Fr F_X3_worth_185 A_X3_worth_185 g0 g_ ∧ en_get 0 l_ = some (.ref 185) ∧ en_get 1 l_ = some (.ref (q1)) ∧ en_get 2 l_ = some (.int a2) ∧ en_get 3 l_ = some (.int a3) ∧ en_get 4 l_ = some (.int v3401) ∧ en_get 5 l_ = some (.int x4975) ∧ en_get 6 l_ = some (.int x4976) ∧ en_get 7 l_ = some (.int x4977) ∧ 0 ≤ x4975.toInt ∧ (0 ≤ x4976.toInt ∧ x4976.toInt ≤ 64) ∧ (0 ≤ x4977.toInt ∧ x4977.toInt ≤ 400)) ?_ (400 - 0) ⟨v3403, 0, 0, by first | rfl | omega, hI3399, hF3400, rfl, rfl, rfl, rfl, rfl, rfl, rfl, rfl, by omega, by decide, by decide⟩
  rintro n4982 l4981 g4978 ⟨x4975, x4976, x4977, hm4997, hI4979, hF4980, e4984, e4985, e4986, e4987, e4988, e4989, e4990, e4991, r4992, r4993, r4994⟩ ih4983
  refine At.enter rfl ?_
  refine r_iload e4991 ?_
  refine r_sipush 400 rfl ?_
  refine r_ics 35 rfl (fun c4998 => ?_) (fun c4998 => ?_)
  · have c4998_ : x4977.toInt ≥ 400 := en_i_ge_t c4998
    refine At.enter rfl ?_
    refine r_aload_n e4984 ?_
    refine q_getR (Sh.ref hI4979.1 kx_185 rfl) ?_
    refine r_iconst 0 rfl ?_
    refine q_lald (Sh.lar hI4979.1 ka_187) (0) rfl (by decide) (fun v4999 => ?_)
    refine r_lret ?_
    exact ⟨_, rfl, hI4979, hF4980, _, rfl, trivial⟩
  · have c4998_ : x4977.toInt < 400 := en_i_ge_f c4998
    refine At.enter rfl ?_
    refine r_iload e4989 ?_
    refine r_iload e4988 ?_
    have bv5001 := q_bnd x4975
    have bv5002 := q_bnd v3401
    refine r_ics 42 rfl (fun c5000 => ?_) (fun c5000 => ?_)
    · have c5000_ : x4975.toInt ≥ v3401.toInt := en_i_ge_t c5000
      refine At.enter rfl ?_
      refine r_aload_n e4984 ?_
      refine q_getR (Sh.ref hI4979.1 kx_185 rfl) ?_
      refine r_iconst 0 rfl ?_
      refine q_lald (Sh.lar hI4979.1 ka_187) (0) rfl (by decide) (fun v5003 => ?_)
      refine r_lret ?_
      exact ⟨_, rfl, hI4979, hF4980, _, rfl, trivial⟩
    · have c5000_ : x4975.toInt < v3401.toInt := en_i_ge_f c5000
      refine At.enter rfl ?_
      refine r_aload_n e4984 ?_
      obtain ⟨v5004, hv5004⟩ : ∃ v, gI g4978 185 3 = v := ⟨_, rfl⟩
      refine q_getI (Sh.int hI4979.1 kx_185 rfl) v5004 hv5004 ?_
      refine r_ifs 49 rfl (fun c5005 => ?_) (fun c5005 => ?_)
      · have c5005_ : v5004.toInt ≠ 0 := en_k_ne_t c5005
        refine At.enter rfl ?_
        refine r_aload_n e4984 ?_
        refine q_getR (Sh.ref hI4979.1 kx_185 rfl) ?_
        refine r_iconst 0 rfl ?_
        refine q_lald (Sh.lar hI4979.1 ka_187) (0) rfl (by decide) (fun v5006 => ?_)
        refine r_lret ?_
        exact ⟨_, rfl, hI4979, hF4980, _, rfl, trivial⟩
      · have c5005_ : v5004.toInt = 0 := en_k_ne_f c5005
        refine At.enter rfl ?_
        refine r_aload_n e4985 ?_
        refine q_getR (Sh.ref hI4979.1 (Lw.ko hq1) rfl) ?_
        refine r_iload e4989 ?_
        refine q_iald' (Sh.arr hI4979.1 (Lw.k1 hq1)) x4975.toInt rfl (by omega) (fun v5007 hv5007 => ?_)
        refine r_istore _ rfl ?_
        refine r_aload_n (w_p1 (by decide) (Or.inr rfl) e4985) ?_
        refine q_getR (Sh.ref hI4979.1 (Lw.ko hq1) rfl) ?_
        refine r_iload (w_p1 (by decide) (Or.inr rfl) e4989) ?_
        refine q_iald' (Sh.arr hI4979.1 (Lw.k2 hq1)) x4975.toInt rfl (by omega) (fun v5008 hv5008 => ?_)
        refine r_istore _ rfl ?_
        refine q_iinc (w_p1 (by decide) (Or.inr rfl) (w_p1 (by decide) (Or.inr rfl) e4989)) (x4975.toInt + 1) rfl (by omega) (fun v5009 hv5009 => ?_)
        refine r_iload (w_p1 (by decide) (Or.inr rfl) (w_p1 (by decide) (Or.inr rfl) (w_e1 _ _ _))) ?_
        refine r_ifs 75 rfl (fun c5010 => ?_) (fun c5010 => ?_)
        · have c5010_ : v5007.toInt = 0 := en_k_eq_t c5010
          refine At.enter rfl ?_
          refine r_iload (w_p1 (by decide) (Or.inr rfl) (w_p1 (by decide) (Or.inr rfl) (w_p1 (by decide) (Or.inr rfl) e4990))) ?_
          refine r_bipush 64 rfl ?_
          refine r_ics 88 rfl (fun c5011 => ?_) (fun c5011 => ?_)
          · have c5011_ : x4976.toInt ≥ 64 := en_i_ge_t c5011
            refine At.enter rfl ?_
            refine q_iinc (w_p1 (by decide) (Or.inr rfl) (w_p1 (by decide) (Or.inr rfl) (w_p1 (by decide) (Or.inr rfl) e4991))) (x4977.toInt + 1) rfl (by omega) (fun v5012 hv5012 => ?_)
            refine r_goto ?_
            have bv5013 := q_bnd v5009
            exact ih4983 (400 - v5012.toInt) _ _ ⟨v5009, x4976, v5012, by first | rfl | omega, hI4979, hF4980, (w_p1 (by decide) (Or.inr rfl) (w_p1 (by decide) (Or.inr rfl) (w_p1 (by decide) (Or.inr rfl) (w_p1 (by decide) (Or.inr rfl) e4984)))), (w_p1 (by decide) (Or.inr rfl) (w_p1 (by decide) (Or.inr rfl) (w_p1 (by decide) (Or.inr rfl) (w_p1 (by decide) (Or.inr rfl) e4985)))), (w_p1 (by decide) (Or.inr rfl) (w_p1 (by decide) (Or.inr rfl) (w_p1 (by decide) (Or.inr rfl) (w_p1 (by decide) (Or.inr rfl) e4986)))), (w_p1 (by decide) (Or.inr rfl) (w_p1 (by decide) (Or.inr rfl) (w_p1 (by decide) (Or.inr rfl) (w_p1 (by decide) (Or.inr rfl) e4987)))), (w_p1 (by decide) (Or.inr rfl) (w_p1 (by decide) (Or.inr rfl) (w_p1 (by decide) (Or.inr rfl) (w_p1 (by decide) (Or.inr rfl) e4988)))), (w_p1 (by decide) (Or.inr rfl) (w_e1 _ _ _)), (w_p1 (by decide) (Or.inr rfl) (w_p1 (by decide) (Or.inr rfl) (w_p1 (by decide) (Or.inr rfl) (w_p1 (by decide) (Or.inr rfl) e4990)))), (w_e1 _ _ _), by omega, by omega, by omega⟩ ⟨by omega, by omega⟩
          · have c5011_ : x4976.toInt < 64 := en_i_ge_f c5011
            refine At.enter rfl ?_
            refine r_aload_n (w_p1 (by decide) (Or.inr rfl) (w_p1 (by decide) (Or.inr rfl) (w_p1 (by decide) (Or.inr rfl) e4984))) ?_
            refine q_getR (Sh.ref hI4979.1 kx_185 rfl) ?_
            refine r_iload (w_p1 (by decide) (Or.inr rfl) (w_p1 (by decide) (Or.inr rfl) (w_p1 (by decide) (Or.inr rfl) e4990))) ?_
            refine r_iload (w_p1 (by decide) (Or.inr rfl) (w_p1 (by decide) (Or.inr rfl) (w_e1 _ _ _))) ?_
            refine r_ifs 99 rfl (fun c5014 => ?_) (fun c5014 => ?_)
            · have c5014_ : v5007.toInt ≠ 0 := en_k_ne_t c5014
              exfalso; omega
            · have c5014_ : v5007.toInt = 0 := en_k_ne_f c5014
              refine At.enter rfl ?_
              refine r_iload (w_p1 (by decide) (Or.inr rfl) (w_e1 _ _ _)) ?_
              refine q_i2l (fun v5015 hv5015 => ?_)
              refine r_goto ?_
              refine At.enter rfl ?_
              refine q_last (Sh.lar hI4979.1 ka_187) (x4976.toInt) rfl (by omega) ?_
              have hI5016 := HI.wK hI4979 ka_187 (x4976.toInt) (v5015) (by decide)
              have hF5017 := Fr.wK (p := 187) (j := x4976.toInt) (v := v5015) hF4980
              refine q_iinc (w_p1 (by decide) (Or.inr rfl) (w_p1 (by decide) (Or.inr rfl) (w_p1 (by decide) (Or.inr rfl) e4990))) (x4976.toInt + 1) rfl (by omega) (fun v5018 hv5018 => ?_)
              refine r_goto ?_
              refine At.enter rfl ?_
              refine q_iinc (w_p1 (by decide) (Or.inr rfl) (w_p1 (by decide) (Or.inr rfl) (w_p1 (by decide) (Or.inr rfl) (w_p1 (by decide) (Or.inr rfl) e4991)))) (x4977.toInt + 1) rfl (by omega) (fun v5019 hv5019 => ?_)
              refine r_goto ?_
              have bv5020 := q_bnd v5009
              exact ih4983 (400 - v5019.toInt) _ _ ⟨v5009, v5018, v5019, by first | rfl | omega, hI5016, hF5017, (w_p1 (by decide) (Or.inr rfl) (w_p1 (by decide) (Or.inr rfl) (w_p1 (by decide) (Or.inr rfl) (w_p1 (by decide) (Or.inr rfl) (w_p1 (by decide) (Or.inr rfl) e4984))))), (w_p1 (by decide) (Or.inr rfl) (w_p1 (by decide) (Or.inr rfl) (w_p1 (by decide) (Or.inr rfl) (w_p1 (by decide) (Or.inr rfl) (w_p1 (by decide) (Or.inr rfl) e4985))))), (w_p1 (by decide) (Or.inr rfl) (w_p1 (by decide) (Or.inr rfl) (w_p1 (by decide) (Or.inr rfl) (w_p1 (by decide) (Or.inr rfl) (w_p1 (by decide) (Or.inr rfl) e4986))))), (w_p1 (by decide) (Or.inr rfl) (w_p1 (by decide) (Or.inr rfl) (w_p1 (by decide) (Or.inr rfl) (w_p1 (by decide) (Or.inr rfl) (w_p1 (by decide) (Or.inr rfl) e4987))))), (w_p1 (by decide) (Or.inr rfl) (w_p1 (by decide) (Or.inr rfl) (w_p1 (by decide) (Or.inr rfl) (w_p1 (by decide) (Or.inr rfl) (w_p1 (by decide) (Or.inr rfl) e4988))))), (w_p1 (by decide) (Or.inr rfl) (w_p1 (by decide) (Or.inr rfl) (w_e1 _ _ _))), (w_p1 (by decide) (Or.inr rfl) (w_e1 _ _ _)), (w_e1 _ _ _), by omega, by omega, by omega⟩ ⟨by omega, by omega⟩
        · have c5010_ : v5007.toInt ≠ 0 := en_k_eq_f c5010
          refine At.enter rfl ?_
          refine r_iload (w_p1 (by decide) (Or.inr rfl) (w_p1 (by decide) (Or.inr rfl) (w_e1 _ _ _))) ?_
          refine r_iconst 1 rfl ?_
          refine r_ics 81 rfl (fun c5021 => ?_) (fun c5021 => ?_)
          · have c5021_ : v5007.toInt ≠ 1 := en_i_ne_t c5021
            refine At.enter rfl ?_
            refine r_iload (w_p1 (by decide) (Or.inr rfl) (w_p1 (by decide) (Or.inr rfl) (w_e1 _ _ _))) ?_
            refine r_bipush 9 rfl ?_
            refine r_ics 142 rfl (fun c5022 => ?_) (fun c5022 => ?_)
            · have c5022_ : v5007.toInt ≠ 9 := en_i_ne_t c5022
              refine At.enter rfl ?_
              refine r_iload (w_p1 (by decide) (Or.inr rfl) (w_p1 (by decide) (Or.inr rfl) (w_e1 _ _ _))) ?_
              refine r_bipush 10 rfl ?_
              refine r_ics 177 rfl (fun c5023 => ?_) (fun c5023 => ?_)
              · have c5023_ : v5007.toInt = 10 := en_i_eq_t c5023
                refine At.enter rfl ?_
                refine r_iload (w_p1 (by decide) (Or.inr rfl) (w_p1 (by decide) (Or.inr rfl) (w_p1 (by decide) (Or.inr rfl) e4990))) ?_
                refine r_ifs 189 rfl (fun c5024 => ?_) (fun c5024 => ?_)
                · have c5024_ : x4976.toInt ≤ 0 := en_k_le_t c5024
                  refine At.enter rfl ?_
                  refine r_iconst 0 rfl ?_
                  refine r_iload (w_p1 (by decide) (Or.inr rfl) (w_p1 (by decide) (Or.inr rfl) (w_p1 (by decide) (Or.inr rfl) e4990))) ?_
                  refine r_iconst 1 rfl ?_
                  refine q_isub (x4976.toInt - 1) rfl (by omega) (fun v5025 hv5025 => ?_)
                  refine q_mmax rfl (Nat.le_of_ble_eq_true rfl) (fun v5026 hv5026 => ?_)
                  have zv5027 : (0 : Int32).toInt = 0 := rfl
                  refine r_istore _ rfl ?_
                  refine r_goto ?_
                  refine At.enter rfl ?_
                  refine q_iinc (w_p1 (by decide) (Or.inr rfl) (w_p1 (by decide) (Or.inr rfl) (w_p1 (by decide) (Or.inr rfl) (w_p1 (by decide) (Or.inr rfl) e4991)))) (x4977.toInt + 1) rfl (by omega) (fun v5028 hv5028 => ?_)
                  refine r_goto ?_
                  have bv5029 := q_bnd v5009
                  exact ih4983 (400 - v5028.toInt) _ _ ⟨v5009, v5026, v5028, by first | rfl | omega, hI4979, hF4980, (w_p1 (by decide) (Or.inr rfl) (w_p1 (by decide) (Or.inr rfl) (w_p1 (by decide) (Or.inr rfl) (w_p1 (by decide) (Or.inr rfl) (w_p1 (by decide) (Or.inr rfl) e4984))))), (w_p1 (by decide) (Or.inr rfl) (w_p1 (by decide) (Or.inr rfl) (w_p1 (by decide) (Or.inr rfl) (w_p1 (by decide) (Or.inr rfl) (w_p1 (by decide) (Or.inr rfl) e4985))))), (w_p1 (by decide) (Or.inr rfl) (w_p1 (by decide) (Or.inr rfl) (w_p1 (by decide) (Or.inr rfl) (w_p1 (by decide) (Or.inr rfl) (w_p1 (by decide) (Or.inr rfl) e4986))))), (w_p1 (by decide) (Or.inr rfl) (w_p1 (by decide) (Or.inr rfl) (w_p1 (by decide) (Or.inr rfl) (w_p1 (by decide) (Or.inr rfl) (w_p1 (by decide) (Or.inr rfl) e4987))))), (w_p1 (by decide) (Or.inr rfl) (w_p1 (by decide) (Or.inr rfl) (w_p1 (by decide) (Or.inr rfl) (w_p1 (by decide) (Or.inr rfl) (w_p1 (by decide) (Or.inr rfl) e4988))))), (w_p1 (by decide) (Or.inr rfl) (w_p1 (by decide) (Or.inr rfl) (w_e1 _ _ _))), (w_p1 (by decide) (Or.inr rfl) (w_e1 _ _ _)), (w_e1 _ _ _), by omega, by omega, by omega⟩ ⟨by omega, by omega⟩
                · have c5024_ : x4976.toInt > 0 := en_k_le_f c5024
                  refine At.enter rfl ?_
                  refine r_aload_n (w_p1 (by decide) (Or.inr rfl) (w_p1 (by decide) (Or.inr rfl) (w_p1 (by decide) (Or.inr rfl) e4984))) ?_
                  refine q_getR (Sh.ref hI4979.1 kx_185 rfl) ?_
                  refine r_iload (w_p1 (by decide) (Or.inr rfl) (w_p1 (by decide) (Or.inr rfl) (w_p1 (by decide) (Or.inr rfl) e4990))) ?_
                  refine r_iconst 1 rfl ?_
                  refine q_isub (x4976.toInt - 1) rfl (by omega) (fun v5030 hv5030 => ?_)
                  refine q_lald (Sh.lar hI4979.1 ka_187) ((x4976.toInt + (-1))) (by omega) (by omega) (fun v5031 => ?_)
                  refine r_lconst 0 rfl ?_
                  refine r_lcmp _ rfl ?_
                  refine r_ifs 203 rfl (fun c5032 => ?_) (fun c5032 => ?_)
                  · have c5032_ : v5031.toInt = 0 := en_j_eq_t c5032
                    refine At.enter rfl ?_
                    refine r_iconst 0 rfl ?_
                    refine Ar.fall 208 rfl ?_
                    refine At.enter rfl ?_
                    refine r_iload (w_p1 (by decide) (Or.inr rfl) (w_p1 (by decide) (Or.inr rfl) (w_e1 _ _ _))) ?_
                    refine r_bipush 11 rfl ?_
                    refine r_ics 215 rfl (fun c5033 => ?_) (fun c5033 => ?_)
                    · have c5033_ : v5007.toInt ≠ 11 := en_i_ne_t c5033
                      refine At.enter rfl ?_
                      refine r_iconst 0 rfl ?_
                      refine Ar.fall 220 rfl ?_
                      refine At.enter rfl ?_
                      refine r_icf 223 rfl (by decide) ?_
                      refine At.enter rfl ?_
                      refine r_iload (w_e1 _ _ _) ?_
                      refine r_iload (w_p1 (by decide) (Or.inr rfl) (w_e1 _ _ _)) ?_
                      refine q_mmax rfl (Nat.le_of_ble_eq_true rfl) (fun v5034 hv5034 => ?_)
                      refine r_istore _ rfl ?_
                      refine r_goto ?_
                      refine At.enter rfl ?_
                      refine q_iinc (w_p1 (by decide) (Or.inr rfl) (w_p1 (by decide) (Or.inr rfl) (w_p1 (by decide) (Or.inr rfl) (w_p1 (by decide) (Or.inr rfl) e4991)))) (x4977.toInt + 1) rfl (by omega) (fun v5035 hv5035 => ?_)
                      refine r_goto ?_
                      have bv5036 := q_bnd v5034
                      exact ih4983 (400 - v5035.toInt) _ _ ⟨v5034, x4976, v5035, by first | rfl | omega, hI4979, hF4980, (w_p1 (by decide) (Or.inr rfl) (w_p1 (by decide) (Or.inr rfl) (w_p1 (by decide) (Or.inr rfl) (w_p1 (by decide) (Or.inr rfl) (w_p1 (by decide) (Or.inr rfl) e4984))))), (w_p1 (by decide) (Or.inr rfl) (w_p1 (by decide) (Or.inr rfl) (w_p1 (by decide) (Or.inr rfl) (w_p1 (by decide) (Or.inr rfl) (w_p1 (by decide) (Or.inr rfl) e4985))))), (w_p1 (by decide) (Or.inr rfl) (w_p1 (by decide) (Or.inr rfl) (w_p1 (by decide) (Or.inr rfl) (w_p1 (by decide) (Or.inr rfl) (w_p1 (by decide) (Or.inr rfl) e4986))))), (w_p1 (by decide) (Or.inr rfl) (w_p1 (by decide) (Or.inr rfl) (w_p1 (by decide) (Or.inr rfl) (w_p1 (by decide) (Or.inr rfl) (w_p1 (by decide) (Or.inr rfl) e4987))))), (w_p1 (by decide) (Or.inr rfl) (w_p1 (by decide) (Or.inr rfl) (w_p1 (by decide) (Or.inr rfl) (w_p1 (by decide) (Or.inr rfl) (w_p1 (by decide) (Or.inr rfl) e4988))))), (w_p1 (by decide) (Or.inr rfl) (w_e1 _ _ _)), (w_p1 (by decide) (Or.inr rfl) (w_p1 (by decide) (Or.inr rfl) (w_p1 (by decide) (Or.inr rfl) (w_p1 (by decide) (Or.inr rfl) (w_p1 (by decide) (Or.inr rfl) e4990))))), (w_e1 _ _ _), by omega, by omega, by omega⟩ ⟨by omega, by omega⟩
                    · have c5033_ : v5007.toInt = 11 := en_i_ne_f c5033
                      exfalso; omega
                  · have c5032_ : v5031.toInt ≠ 0 := en_j_eq_f c5032
                    refine At.enter rfl ?_
                    refine r_iconst 1 rfl ?_
                    refine r_goto ?_
                    refine At.enter rfl ?_
                    refine r_iload (w_p1 (by decide) (Or.inr rfl) (w_p1 (by decide) (Or.inr rfl) (w_e1 _ _ _))) ?_
                    refine r_bipush 11 rfl ?_
                    refine r_ics 215 rfl (fun c5037 => ?_) (fun c5037 => ?_)
                    · have c5037_ : v5007.toInt ≠ 11 := en_i_ne_t c5037
                      refine At.enter rfl ?_
                      refine r_iconst 0 rfl ?_
                      refine Ar.fall 220 rfl ?_
                      refine At.enter rfl ?_
                      refine r_ict (by decide) ?_
                      refine At.enter rfl ?_
                      refine r_iconst 0 rfl ?_
                      refine r_iload (w_p1 (by decide) (Or.inr rfl) (w_p1 (by decide) (Or.inr rfl) (w_p1 (by decide) (Or.inr rfl) e4990))) ?_
                      refine r_iconst 1 rfl ?_
                      refine q_isub (x4976.toInt - 1) rfl (by omega) (fun v5038 hv5038 => ?_)
                      refine q_mmax rfl (Nat.le_of_ble_eq_true rfl) (fun v5039 hv5039 => ?_)
                      have zv5040 : (0 : Int32).toInt = 0 := rfl
                      refine r_istore _ rfl ?_
                      refine r_goto ?_
                      refine At.enter rfl ?_
                      refine q_iinc (w_p1 (by decide) (Or.inr rfl) (w_p1 (by decide) (Or.inr rfl) (w_p1 (by decide) (Or.inr rfl) (w_p1 (by decide) (Or.inr rfl) e4991)))) (x4977.toInt + 1) rfl (by omega) (fun v5041 hv5041 => ?_)
                      refine r_goto ?_
                      have bv5042 := q_bnd v5009
                      exact ih4983 (400 - v5041.toInt) _ _ ⟨v5009, v5039, v5041, by first | rfl | omega, hI4979, hF4980, (w_p1 (by decide) (Or.inr rfl) (w_p1 (by decide) (Or.inr rfl) (w_p1 (by decide) (Or.inr rfl) (w_p1 (by decide) (Or.inr rfl) (w_p1 (by decide) (Or.inr rfl) e4984))))), (w_p1 (by decide) (Or.inr rfl) (w_p1 (by decide) (Or.inr rfl) (w_p1 (by decide) (Or.inr rfl) (w_p1 (by decide) (Or.inr rfl) (w_p1 (by decide) (Or.inr rfl) e4985))))), (w_p1 (by decide) (Or.inr rfl) (w_p1 (by decide) (Or.inr rfl) (w_p1 (by decide) (Or.inr rfl) (w_p1 (by decide) (Or.inr rfl) (w_p1 (by decide) (Or.inr rfl) e4986))))), (w_p1 (by decide) (Or.inr rfl) (w_p1 (by decide) (Or.inr rfl) (w_p1 (by decide) (Or.inr rfl) (w_p1 (by decide) (Or.inr rfl) (w_p1 (by decide) (Or.inr rfl) e4987))))), (w_p1 (by decide) (Or.inr rfl) (w_p1 (by decide) (Or.inr rfl) (w_p1 (by decide) (Or.inr rfl) (w_p1 (by decide) (Or.inr rfl) (w_p1 (by decide) (Or.inr rfl) e4988))))), (w_p1 (by decide) (Or.inr rfl) (w_p1 (by decide) (Or.inr rfl) (w_e1 _ _ _))), (w_p1 (by decide) (Or.inr rfl) (w_e1 _ _ _)), (w_e1 _ _ _), by omega, by omega, by omega⟩ ⟨by omega, by omega⟩
                    · have c5037_ : v5007.toInt = 11 := en_i_ne_f c5037
                      exfalso; omega
              · have c5023_ : v5007.toInt ≠ 10 := en_i_eq_f c5023
                refine At.enter rfl ?_
                refine r_iload (w_p1 (by decide) (Or.inr rfl) (w_p1 (by decide) (Or.inr rfl) (w_e1 _ _ _))) ?_
                refine r_bipush 11 rfl ?_
                refine r_ics 184 rfl (fun c5043 => ?_) (fun c5043 => ?_)
                · have c5043_ : v5007.toInt ≠ 11 := en_i_ne_t c5043
                  refine At.enter rfl ?_
                  refine r_iload (w_p1 (by decide) (Or.inr rfl) (w_p1 (by decide) (Or.inr rfl) (w_p1 (by decide) (Or.inr rfl) e4990))) ?_
                  refine r_iconst 1 rfl ?_
                  refine r_ics 254 rfl (fun c5044 => ?_) (fun c5044 => ?_)
                  · have c5044_ : x4976.toInt ≤ 1 := en_i_le_t c5044
                    refine At.enter rfl ?_
                    refine q_iinc (w_p1 (by decide) (Or.inr rfl) (w_p1 (by decide) (Or.inr rfl) (w_p1 (by decide) (Or.inr rfl) e4991))) (x4977.toInt + 1) rfl (by omega) (fun v5045 hv5045 => ?_)
                    refine r_goto ?_
                    have bv5046 := q_bnd v5009
                    exact ih4983 (400 - v5045.toInt) _ _ ⟨v5009, x4976, v5045, by first | rfl | omega, hI4979, hF4980, (w_p1 (by decide) (Or.inr rfl) (w_p1 (by decide) (Or.inr rfl) (w_p1 (by decide) (Or.inr rfl) (w_p1 (by decide) (Or.inr rfl) e4984)))), (w_p1 (by decide) (Or.inr rfl) (w_p1 (by decide) (Or.inr rfl) (w_p1 (by decide) (Or.inr rfl) (w_p1 (by decide) (Or.inr rfl) e4985)))), (w_p1 (by decide) (Or.inr rfl) (w_p1 (by decide) (Or.inr rfl) (w_p1 (by decide) (Or.inr rfl) (w_p1 (by decide) (Or.inr rfl) e4986)))), (w_p1 (by decide) (Or.inr rfl) (w_p1 (by decide) (Or.inr rfl) (w_p1 (by decide) (Or.inr rfl) (w_p1 (by decide) (Or.inr rfl) e4987)))), (w_p1 (by decide) (Or.inr rfl) (w_p1 (by decide) (Or.inr rfl) (w_p1 (by decide) (Or.inr rfl) (w_p1 (by decide) (Or.inr rfl) e4988)))), (w_p1 (by decide) (Or.inr rfl) (w_e1 _ _ _)), (w_p1 (by decide) (Or.inr rfl) (w_p1 (by decide) (Or.inr rfl) (w_p1 (by decide) (Or.inr rfl) (w_p1 (by decide) (Or.inr rfl) e4990)))), (w_e1 _ _ _), by omega, by omega, by omega⟩ ⟨by omega, by omega⟩
                  · have c5044_ : x4976.toInt > 1 := en_i_le_f c5044
                    refine At.enter rfl ?_
                    refine q_iinc (w_p1 (by decide) (Or.inr rfl) (w_p1 (by decide) (Or.inr rfl) (w_p1 (by decide) (Or.inr rfl) e4990))) (x4976.toInt + (-1)) rfl (by omega) (fun v5047 hv5047 => ?_)
                    refine r_aload_n (w_p1 (by decide) (Or.inr rfl) (w_p1 (by decide) (Or.inr rfl) (w_p1 (by decide) (Or.inr rfl) (w_p1 (by decide) (Or.inr rfl) e4984)))) ?_
                    refine q_getR (Sh.ref hI4979.1 kx_185 rfl) ?_
                    refine r_iload (w_e1 _ _ _) ?_
                    refine r_iconst 1 rfl ?_
                    refine q_isub (v5047.toInt - 1) rfl (by omega) (fun v5048 hv5048 => ?_)
                    refine r_aload_n (w_p1 (by decide) (Or.inr rfl) (w_p1 (by decide) (Or.inr rfl) (w_p1 (by decide) (Or.inr rfl) (w_p1 (by decide) (Or.inr rfl) e4984)))) ?_
                    refine r_iload (w_p1 (by decide) (Or.inr rfl) (w_p1 (by decide) (Or.inr rfl) (w_p1 (by decide) (Or.inr rfl) (w_e1 _ _ _)))) ?_
                    refine r_aload_n (w_p1 (by decide) (Or.inr rfl) (w_p1 (by decide) (Or.inr rfl) (w_p1 (by decide) (Or.inr rfl) (w_p1 (by decide) (Or.inr rfl) e4984)))) ?_
                    refine q_getR (Sh.ref hI4979.1 kx_185 rfl) ?_
                    refine r_iload (w_e1 _ _ _) ?_
                    refine r_iconst 1 rfl ?_
                    refine q_isub (v5047.toInt - 1) rfl (by omega) (fun v5049 hv5049 => ?_)
                    refine q_lald (Sh.lar hI4979.1 ka_187) ((x4976.toInt + (-2))) (by omega) (by omega) (fun v5050 => ?_)
                    refine r_aload_n (w_p1 (by decide) (Or.inr rfl) (w_p1 (by decide) (Or.inr rfl) (w_p1 (by decide) (Or.inr rfl) (w_p1 (by decide) (Or.inr rfl) e4984)))) ?_
                    refine q_getR (Sh.ref hI4979.1 kx_185 rfl) ?_
                    refine r_iload (w_e1 _ _ _) ?_
                    refine q_lald (Sh.lar hI4979.1 ka_187) ((x4976.toInt + (-1))) (by omega) (by omega) (fun v5051 => ?_)
                    refine r_callV 287 rfl [.ref 185, .int v5007, .long v5050, .long v5051] [.int v5048, .ref 187] (Nat.le_of_ble_eq_true rfl) rfl (T_X3_joined_185 _ hI4979 v5007 v5050 v5051) ?_
                    rintro _ _ ⟨g5052, rfl, hI5053, hF5054, v5055, rfl, hr5056⟩
                    refine At.stl ?_
                    have hF5057 := Fr.tr hF4980 hF5054 rfl rfl
                    refine At.enter rfl ?_
                    refine q_last (Sh.lar hI5053.1 ka_187) ((x4976.toInt + (-2))) (by omega) (by omega) ?_
                    have hI5058 := HI.wK hI5053 ka_187 ((x4976.toInt + (-2))) (v5055) (by decide)
                    have hF5059 := Fr.wK (p := 187) (j := (x4976.toInt + (-2))) (v := v5055) hF5057
                    refine Ar.fall 288 rfl ?_
                    refine At.enter rfl ?_
                    refine q_iinc (w_p1 (by decide) (Or.inr rfl) (w_p1 (by decide) (Or.inr rfl) (w_p1 (by decide) (Or.inr rfl) (w_p1 (by decide) (Or.inr rfl) e4991)))) (x4977.toInt + 1) rfl (by omega) (fun v5060 hv5060 => ?_)
                    refine r_goto ?_
                    have bv5061 := q_bnd v5009
                    exact ih4983 (400 - v5060.toInt) _ _ ⟨v5009, v5047, v5060, by first | rfl | omega, hI5058, hF5059, (w_p1 (by decide) (Or.inr rfl) (w_p1 (by decide) (Or.inr rfl) (w_p1 (by decide) (Or.inr rfl) (w_p1 (by decide) (Or.inr rfl) (w_p1 (by decide) (Or.inr rfl) e4984))))), (w_p1 (by decide) (Or.inr rfl) (w_p1 (by decide) (Or.inr rfl) (w_p1 (by decide) (Or.inr rfl) (w_p1 (by decide) (Or.inr rfl) (w_p1 (by decide) (Or.inr rfl) e4985))))), (w_p1 (by decide) (Or.inr rfl) (w_p1 (by decide) (Or.inr rfl) (w_p1 (by decide) (Or.inr rfl) (w_p1 (by decide) (Or.inr rfl) (w_p1 (by decide) (Or.inr rfl) e4986))))), (w_p1 (by decide) (Or.inr rfl) (w_p1 (by decide) (Or.inr rfl) (w_p1 (by decide) (Or.inr rfl) (w_p1 (by decide) (Or.inr rfl) (w_p1 (by decide) (Or.inr rfl) e4987))))), (w_p1 (by decide) (Or.inr rfl) (w_p1 (by decide) (Or.inr rfl) (w_p1 (by decide) (Or.inr rfl) (w_p1 (by decide) (Or.inr rfl) (w_p1 (by decide) (Or.inr rfl) e4988))))), (w_p1 (by decide) (Or.inr rfl) (w_p1 (by decide) (Or.inr rfl) (w_e1 _ _ _))), (w_p1 (by decide) (Or.inr rfl) (w_e1 _ _ _)), (w_e1 _ _ _), by omega, by omega, by omega⟩ ⟨by omega, by omega⟩
                · have c5043_ : v5007.toInt = 11 := en_i_ne_f c5043
                  refine At.enter rfl ?_
                  refine r_iload (w_p1 (by decide) (Or.inr rfl) (w_p1 (by decide) (Or.inr rfl) (w_p1 (by decide) (Or.inr rfl) e4990))) ?_
                  refine r_ifs 189 rfl (fun c5062 => ?_) (fun c5062 => ?_)
                  · have c5062_ : x4976.toInt ≤ 0 := en_k_le_t c5062
                    refine At.enter rfl ?_
                    refine r_iconst 0 rfl ?_
                    refine r_iload (w_p1 (by decide) (Or.inr rfl) (w_p1 (by decide) (Or.inr rfl) (w_p1 (by decide) (Or.inr rfl) e4990))) ?_
                    refine r_iconst 1 rfl ?_
                    refine q_isub (x4976.toInt - 1) rfl (by omega) (fun v5063 hv5063 => ?_)
                    refine q_mmax rfl (Nat.le_of_ble_eq_true rfl) (fun v5064 hv5064 => ?_)
                    have zv5065 : (0 : Int32).toInt = 0 := rfl
                    refine r_istore _ rfl ?_
                    refine r_goto ?_
                    refine At.enter rfl ?_
                    refine q_iinc (w_p1 (by decide) (Or.inr rfl) (w_p1 (by decide) (Or.inr rfl) (w_p1 (by decide) (Or.inr rfl) (w_p1 (by decide) (Or.inr rfl) e4991)))) (x4977.toInt + 1) rfl (by omega) (fun v5066 hv5066 => ?_)
                    refine r_goto ?_
                    have bv5067 := q_bnd v5009
                    exact ih4983 (400 - v5066.toInt) _ _ ⟨v5009, v5064, v5066, by first | rfl | omega, hI4979, hF4980, (w_p1 (by decide) (Or.inr rfl) (w_p1 (by decide) (Or.inr rfl) (w_p1 (by decide) (Or.inr rfl) (w_p1 (by decide) (Or.inr rfl) (w_p1 (by decide) (Or.inr rfl) e4984))))), (w_p1 (by decide) (Or.inr rfl) (w_p1 (by decide) (Or.inr rfl) (w_p1 (by decide) (Or.inr rfl) (w_p1 (by decide) (Or.inr rfl) (w_p1 (by decide) (Or.inr rfl) e4985))))), (w_p1 (by decide) (Or.inr rfl) (w_p1 (by decide) (Or.inr rfl) (w_p1 (by decide) (Or.inr rfl) (w_p1 (by decide) (Or.inr rfl) (w_p1 (by decide) (Or.inr rfl) e4986))))), (w_p1 (by decide) (Or.inr rfl) (w_p1 (by decide) (Or.inr rfl) (w_p1 (by decide) (Or.inr rfl) (w_p1 (by decide) (Or.inr rfl) (w_p1 (by decide) (Or.inr rfl) e4987))))), (w_p1 (by decide) (Or.inr rfl) (w_p1 (by decide) (Or.inr rfl) (w_p1 (by decide) (Or.inr rfl) (w_p1 (by decide) (Or.inr rfl) (w_p1 (by decide) (Or.inr rfl) e4988))))), (w_p1 (by decide) (Or.inr rfl) (w_p1 (by decide) (Or.inr rfl) (w_e1 _ _ _))), (w_p1 (by decide) (Or.inr rfl) (w_e1 _ _ _)), (w_e1 _ _ _), by omega, by omega, by omega⟩ ⟨by omega, by omega⟩
                  · have c5062_ : x4976.toInt > 0 := en_k_le_f c5062
                    refine At.enter rfl ?_
                    refine r_aload_n (w_p1 (by decide) (Or.inr rfl) (w_p1 (by decide) (Or.inr rfl) (w_p1 (by decide) (Or.inr rfl) e4984))) ?_
                    refine q_getR (Sh.ref hI4979.1 kx_185 rfl) ?_
                    refine r_iload (w_p1 (by decide) (Or.inr rfl) (w_p1 (by decide) (Or.inr rfl) (w_p1 (by decide) (Or.inr rfl) e4990))) ?_
                    refine r_iconst 1 rfl ?_
                    refine q_isub (x4976.toInt - 1) rfl (by omega) (fun v5068 hv5068 => ?_)
                    refine q_lald (Sh.lar hI4979.1 ka_187) ((x4976.toInt + (-1))) (by omega) (by omega) (fun v5069 => ?_)
                    refine r_lconst 0 rfl ?_
                    refine r_lcmp _ rfl ?_
                    refine r_ifs 203 rfl (fun c5070 => ?_) (fun c5070 => ?_)
                    · have c5070_ : v5069.toInt = 0 := en_j_eq_t c5070
                      refine At.enter rfl ?_
                      refine r_iconst 0 rfl ?_
                      refine Ar.fall 208 rfl ?_
                      refine At.enter rfl ?_
                      refine r_iload (w_p1 (by decide) (Or.inr rfl) (w_p1 (by decide) (Or.inr rfl) (w_e1 _ _ _))) ?_
                      refine r_bipush 11 rfl ?_
                      refine r_ics 215 rfl (fun c5071 => ?_) (fun c5071 => ?_)
                      · have c5071_ : v5007.toInt ≠ 11 := en_i_ne_t c5071
                        exfalso; omega
                      · have c5071_ : v5007.toInt = 11 := en_i_ne_f c5071
                        refine At.enter rfl ?_
                        refine r_iconst 1 rfl ?_
                        refine r_goto ?_
                        refine At.enter rfl ?_
                        refine r_ict (by decide) ?_
                        refine At.enter rfl ?_
                        refine r_iconst 0 rfl ?_
                        refine r_iload (w_p1 (by decide) (Or.inr rfl) (w_p1 (by decide) (Or.inr rfl) (w_p1 (by decide) (Or.inr rfl) e4990))) ?_
                        refine r_iconst 1 rfl ?_
                        refine q_isub (x4976.toInt - 1) rfl (by omega) (fun v5072 hv5072 => ?_)
                        refine q_mmax rfl (Nat.le_of_ble_eq_true rfl) (fun v5073 hv5073 => ?_)
                        have zv5074 : (0 : Int32).toInt = 0 := rfl
                        refine r_istore _ rfl ?_
                        refine r_goto ?_
                        refine At.enter rfl ?_
                        refine q_iinc (w_p1 (by decide) (Or.inr rfl) (w_p1 (by decide) (Or.inr rfl) (w_p1 (by decide) (Or.inr rfl) (w_p1 (by decide) (Or.inr rfl) e4991)))) (x4977.toInt + 1) rfl (by omega) (fun v5075 hv5075 => ?_)
                        refine r_goto ?_
                        have bv5076 := q_bnd v5009
                        exact ih4983 (400 - v5075.toInt) _ _ ⟨v5009, v5073, v5075, by first | rfl | omega, hI4979, hF4980, (w_p1 (by decide) (Or.inr rfl) (w_p1 (by decide) (Or.inr rfl) (w_p1 (by decide) (Or.inr rfl) (w_p1 (by decide) (Or.inr rfl) (w_p1 (by decide) (Or.inr rfl) e4984))))), (w_p1 (by decide) (Or.inr rfl) (w_p1 (by decide) (Or.inr rfl) (w_p1 (by decide) (Or.inr rfl) (w_p1 (by decide) (Or.inr rfl) (w_p1 (by decide) (Or.inr rfl) e4985))))), (w_p1 (by decide) (Or.inr rfl) (w_p1 (by decide) (Or.inr rfl) (w_p1 (by decide) (Or.inr rfl) (w_p1 (by decide) (Or.inr rfl) (w_p1 (by decide) (Or.inr rfl) e4986))))), (w_p1 (by decide) (Or.inr rfl) (w_p1 (by decide) (Or.inr rfl) (w_p1 (by decide) (Or.inr rfl) (w_p1 (by decide) (Or.inr rfl) (w_p1 (by decide) (Or.inr rfl) e4987))))), (w_p1 (by decide) (Or.inr rfl) (w_p1 (by decide) (Or.inr rfl) (w_p1 (by decide) (Or.inr rfl) (w_p1 (by decide) (Or.inr rfl) (w_p1 (by decide) (Or.inr rfl) e4988))))), (w_p1 (by decide) (Or.inr rfl) (w_p1 (by decide) (Or.inr rfl) (w_e1 _ _ _))), (w_p1 (by decide) (Or.inr rfl) (w_e1 _ _ _)), (w_e1 _ _ _), by omega, by omega, by omega⟩ ⟨by omega, by omega⟩
                    · have c5070_ : v5069.toInt ≠ 0 := en_j_eq_f c5070
                      refine At.enter rfl ?_
                      refine r_iconst 1 rfl ?_
                      refine r_goto ?_
                      refine At.enter rfl ?_
                      refine r_iload (w_p1 (by decide) (Or.inr rfl) (w_p1 (by decide) (Or.inr rfl) (w_e1 _ _ _))) ?_
                      refine r_bipush 11 rfl ?_
                      refine r_ics 215 rfl (fun c5077 => ?_) (fun c5077 => ?_)
                      · have c5077_ : v5007.toInt ≠ 11 := en_i_ne_t c5077
                        exfalso; omega
                      · have c5077_ : v5007.toInt = 11 := en_i_ne_f c5077
                        refine At.enter rfl ?_
                        refine r_iconst 1 rfl ?_
                        refine r_goto ?_
                        refine At.enter rfl ?_
                        refine r_icf 223 rfl (by decide) ?_
                        refine At.enter rfl ?_
                        refine r_iload (w_e1 _ _ _) ?_
                        refine r_iload (w_p1 (by decide) (Or.inr rfl) (w_e1 _ _ _)) ?_
                        refine q_mmax rfl (Nat.le_of_ble_eq_true rfl) (fun v5078 hv5078 => ?_)
                        refine r_istore _ rfl ?_
                        refine r_goto ?_
                        refine At.enter rfl ?_
                        refine q_iinc (w_p1 (by decide) (Or.inr rfl) (w_p1 (by decide) (Or.inr rfl) (w_p1 (by decide) (Or.inr rfl) (w_p1 (by decide) (Or.inr rfl) e4991)))) (x4977.toInt + 1) rfl (by omega) (fun v5079 hv5079 => ?_)
                        refine r_goto ?_
                        have bv5080 := q_bnd v5078
                        exact ih4983 (400 - v5079.toInt) _ _ ⟨v5078, x4976, v5079, by first | rfl | omega, hI4979, hF4980, (w_p1 (by decide) (Or.inr rfl) (w_p1 (by decide) (Or.inr rfl) (w_p1 (by decide) (Or.inr rfl) (w_p1 (by decide) (Or.inr rfl) (w_p1 (by decide) (Or.inr rfl) e4984))))), (w_p1 (by decide) (Or.inr rfl) (w_p1 (by decide) (Or.inr rfl) (w_p1 (by decide) (Or.inr rfl) (w_p1 (by decide) (Or.inr rfl) (w_p1 (by decide) (Or.inr rfl) e4985))))), (w_p1 (by decide) (Or.inr rfl) (w_p1 (by decide) (Or.inr rfl) (w_p1 (by decide) (Or.inr rfl) (w_p1 (by decide) (Or.inr rfl) (w_p1 (by decide) (Or.inr rfl) e4986))))), (w_p1 (by decide) (Or.inr rfl) (w_p1 (by decide) (Or.inr rfl) (w_p1 (by decide) (Or.inr rfl) (w_p1 (by decide) (Or.inr rfl) (w_p1 (by decide) (Or.inr rfl) e4987))))), (w_p1 (by decide) (Or.inr rfl) (w_p1 (by decide) (Or.inr rfl) (w_p1 (by decide) (Or.inr rfl) (w_p1 (by decide) (Or.inr rfl) (w_p1 (by decide) (Or.inr rfl) e4988))))), (w_p1 (by decide) (Or.inr rfl) (w_e1 _ _ _)), (w_p1 (by decide) (Or.inr rfl) (w_p1 (by decide) (Or.inr rfl) (w_p1 (by decide) (Or.inr rfl) (w_p1 (by decide) (Or.inr rfl) (w_p1 (by decide) (Or.inr rfl) e4990))))), (w_e1 _ _ _), by omega, by omega, by omega⟩ ⟨by omega, by omega⟩
            · have c5022_ : v5007.toInt = 9 := en_i_ne_f c5022
              refine At.enter rfl ?_
              refine r_iload (w_p1 (by decide) (Or.inr rfl) (w_p1 (by decide) (Or.inr rfl) (w_p1 (by decide) (Or.inr rfl) e4990))) ?_
              refine r_ifs 147 rfl (fun c5081 => ?_) (fun c5081 => ?_)
              · have c5081_ : x4976.toInt ≤ 0 := en_k_le_t c5081
                refine At.enter rfl ?_
                refine q_iinc (w_p1 (by decide) (Or.inr rfl) (w_p1 (by decide) (Or.inr rfl) (w_p1 (by decide) (Or.inr rfl) e4991))) (x4977.toInt + 1) rfl (by omega) (fun v5082 hv5082 => ?_)
                refine r_goto ?_
                have bv5083 := q_bnd v5009
                exact ih4983 (400 - v5082.toInt) _ _ ⟨v5009, x4976, v5082, by first | rfl | omega, hI4979, hF4980, (w_p1 (by decide) (Or.inr rfl) (w_p1 (by decide) (Or.inr rfl) (w_p1 (by decide) (Or.inr rfl) (w_p1 (by decide) (Or.inr rfl) e4984)))), (w_p1 (by decide) (Or.inr rfl) (w_p1 (by decide) (Or.inr rfl) (w_p1 (by decide) (Or.inr rfl) (w_p1 (by decide) (Or.inr rfl) e4985)))), (w_p1 (by decide) (Or.inr rfl) (w_p1 (by decide) (Or.inr rfl) (w_p1 (by decide) (Or.inr rfl) (w_p1 (by decide) (Or.inr rfl) e4986)))), (w_p1 (by decide) (Or.inr rfl) (w_p1 (by decide) (Or.inr rfl) (w_p1 (by decide) (Or.inr rfl) (w_p1 (by decide) (Or.inr rfl) e4987)))), (w_p1 (by decide) (Or.inr rfl) (w_p1 (by decide) (Or.inr rfl) (w_p1 (by decide) (Or.inr rfl) (w_p1 (by decide) (Or.inr rfl) e4988)))), (w_p1 (by decide) (Or.inr rfl) (w_e1 _ _ _)), (w_p1 (by decide) (Or.inr rfl) (w_p1 (by decide) (Or.inr rfl) (w_p1 (by decide) (Or.inr rfl) (w_p1 (by decide) (Or.inr rfl) e4990)))), (w_e1 _ _ _), by omega, by omega, by omega⟩ ⟨by omega, by omega⟩
              · have c5081_ : x4976.toInt > 0 := en_k_le_f c5081
                refine At.enter rfl ?_
                refine r_aload_n (w_p1 (by decide) (Or.inr rfl) (w_p1 (by decide) (Or.inr rfl) (w_p1 (by decide) (Or.inr rfl) e4984))) ?_
                refine q_getR (Sh.ref hI4979.1 kx_185 rfl) ?_
                refine r_iload (w_p1 (by decide) (Or.inr rfl) (w_p1 (by decide) (Or.inr rfl) (w_p1 (by decide) (Or.inr rfl) e4990))) ?_
                refine r_iconst 1 rfl ?_
                refine q_isub (x4976.toInt - 1) rfl (by omega) (fun v5084 hv5084 => ?_)
                refine r_lconst 1 rfl ?_
                refine r_aload_n (w_p1 (by decide) (Or.inr rfl) (w_p1 (by decide) (Or.inr rfl) (w_p1 (by decide) (Or.inr rfl) e4984))) ?_
                refine q_getR (Sh.ref hI4979.1 kx_185 rfl) ?_
                refine r_iload (w_p1 (by decide) (Or.inr rfl) (w_p1 (by decide) (Or.inr rfl) (w_p1 (by decide) (Or.inr rfl) e4990))) ?_
                refine r_iconst 1 rfl ?_
                refine q_isub (x4976.toInt - 1) rfl (by omega) (fun v5085 hv5085 => ?_)
                refine q_lald (Sh.lar hI4979.1 ka_187) ((x4976.toInt + (-1))) (by omega) (by omega) (fun v5086 => ?_)
                refine q_lsubO (fun v5087 _ => ?_)
                refine q_last (Sh.lar hI4979.1 ka_187) ((x4976.toInt + (-1))) (by omega) (by omega) ?_
                have hI5088 := HI.wK hI4979 ka_187 ((x4976.toInt + (-1))) (v5087) (by decide)
                have hF5089 := Fr.wK (p := 187) (j := (x4976.toInt + (-1))) (v := v5087) hF4980
                refine r_goto ?_
                refine At.enter rfl ?_
                refine q_iinc (w_p1 (by decide) (Or.inr rfl) (w_p1 (by decide) (Or.inr rfl) (w_p1 (by decide) (Or.inr rfl) e4991))) (x4977.toInt + 1) rfl (by omega) (fun v5090 hv5090 => ?_)
                refine r_goto ?_
                have bv5091 := q_bnd v5009
                exact ih4983 (400 - v5090.toInt) _ _ ⟨v5009, x4976, v5090, by first | rfl | omega, hI5088, hF5089, (w_p1 (by decide) (Or.inr rfl) (w_p1 (by decide) (Or.inr rfl) (w_p1 (by decide) (Or.inr rfl) (w_p1 (by decide) (Or.inr rfl) e4984)))), (w_p1 (by decide) (Or.inr rfl) (w_p1 (by decide) (Or.inr rfl) (w_p1 (by decide) (Or.inr rfl) (w_p1 (by decide) (Or.inr rfl) e4985)))), (w_p1 (by decide) (Or.inr rfl) (w_p1 (by decide) (Or.inr rfl) (w_p1 (by decide) (Or.inr rfl) (w_p1 (by decide) (Or.inr rfl) e4986)))), (w_p1 (by decide) (Or.inr rfl) (w_p1 (by decide) (Or.inr rfl) (w_p1 (by decide) (Or.inr rfl) (w_p1 (by decide) (Or.inr rfl) e4987)))), (w_p1 (by decide) (Or.inr rfl) (w_p1 (by decide) (Or.inr rfl) (w_p1 (by decide) (Or.inr rfl) (w_p1 (by decide) (Or.inr rfl) e4988)))), (w_p1 (by decide) (Or.inr rfl) (w_e1 _ _ _)), (w_p1 (by decide) (Or.inr rfl) (w_p1 (by decide) (Or.inr rfl) (w_p1 (by decide) (Or.inr rfl) (w_p1 (by decide) (Or.inr rfl) e4990)))), (w_e1 _ _ _), by omega, by omega, by omega⟩ ⟨by omega, by omega⟩
          · have c5021_ : v5007.toInt = 1 := en_i_ne_f c5021
            refine At.enter rfl ?_
            refine r_iload (w_p1 (by decide) (Or.inr rfl) (w_p1 (by decide) (Or.inr rfl) (w_p1 (by decide) (Or.inr rfl) e4990))) ?_
            refine r_bipush 64 rfl ?_
            refine r_ics 88 rfl (fun c5092 => ?_) (fun c5092 => ?_)
            · have c5092_ : x4976.toInt ≥ 64 := en_i_ge_t c5092
              refine At.enter rfl ?_
              refine q_iinc (w_p1 (by decide) (Or.inr rfl) (w_p1 (by decide) (Or.inr rfl) (w_p1 (by decide) (Or.inr rfl) e4991))) (x4977.toInt + 1) rfl (by omega) (fun v5093 hv5093 => ?_)
              refine r_goto ?_
              have bv5094 := q_bnd v5009
              exact ih4983 (400 - v5093.toInt) _ _ ⟨v5009, x4976, v5093, by first | rfl | omega, hI4979, hF4980, (w_p1 (by decide) (Or.inr rfl) (w_p1 (by decide) (Or.inr rfl) (w_p1 (by decide) (Or.inr rfl) (w_p1 (by decide) (Or.inr rfl) e4984)))), (w_p1 (by decide) (Or.inr rfl) (w_p1 (by decide) (Or.inr rfl) (w_p1 (by decide) (Or.inr rfl) (w_p1 (by decide) (Or.inr rfl) e4985)))), (w_p1 (by decide) (Or.inr rfl) (w_p1 (by decide) (Or.inr rfl) (w_p1 (by decide) (Or.inr rfl) (w_p1 (by decide) (Or.inr rfl) e4986)))), (w_p1 (by decide) (Or.inr rfl) (w_p1 (by decide) (Or.inr rfl) (w_p1 (by decide) (Or.inr rfl) (w_p1 (by decide) (Or.inr rfl) e4987)))), (w_p1 (by decide) (Or.inr rfl) (w_p1 (by decide) (Or.inr rfl) (w_p1 (by decide) (Or.inr rfl) (w_p1 (by decide) (Or.inr rfl) e4988)))), (w_p1 (by decide) (Or.inr rfl) (w_e1 _ _ _)), (w_p1 (by decide) (Or.inr rfl) (w_p1 (by decide) (Or.inr rfl) (w_p1 (by decide) (Or.inr rfl) (w_p1 (by decide) (Or.inr rfl) e4990)))), (w_e1 _ _ _), by omega, by omega, by omega⟩ ⟨by omega, by omega⟩
            · have c5092_ : x4976.toInt < 64 := en_i_ge_f c5092
              refine At.enter rfl ?_
              refine r_aload_n (w_p1 (by decide) (Or.inr rfl) (w_p1 (by decide) (Or.inr rfl) (w_p1 (by decide) (Or.inr rfl) e4984))) ?_
              refine q_getR (Sh.ref hI4979.1 kx_185 rfl) ?_
              refine r_iload (w_p1 (by decide) (Or.inr rfl) (w_p1 (by decide) (Or.inr rfl) (w_p1 (by decide) (Or.inr rfl) e4990))) ?_
              refine r_iload (w_p1 (by decide) (Or.inr rfl) (w_p1 (by decide) (Or.inr rfl) (w_e1 _ _ _))) ?_
              refine r_ifs 99 rfl (fun c5095 => ?_) (fun c5095 => ?_)
              · have c5095_ : v5007.toInt ≠ 0 := en_k_ne_t c5095
                refine At.enter rfl ?_
                refine r_iload (w_p1 (by decide) (Or.inr rfl) (w_e1 _ _ _)) ?_
                refine r_ifs 110 rfl (fun c5096 => ?_) (fun c5096 => ?_)
                · have c5096_ : v5008.toInt < 0 := en_k_lt_t c5096
                  refine At.enter rfl ?_
                  refine r_lconst 0 rfl ?_
                  refine Ar.fall 128 rfl ?_
                  refine At.enter rfl ?_
                  refine q_last (Sh.lar hI4979.1 ka_187) (x4976.toInt) rfl (by omega) ?_
                  have hI5097 := HI.wK hI4979 ka_187 (x4976.toInt) (0) (by decide)
                  have hF5098 := Fr.wK (p := 187) (j := x4976.toInt) (v := 0) hF4980
                  refine q_iinc (w_p1 (by decide) (Or.inr rfl) (w_p1 (by decide) (Or.inr rfl) (w_p1 (by decide) (Or.inr rfl) e4990))) (x4976.toInt + 1) rfl (by omega) (fun v5099 hv5099 => ?_)
                  refine r_goto ?_
                  refine At.enter rfl ?_
                  refine q_iinc (w_p1 (by decide) (Or.inr rfl) (w_p1 (by decide) (Or.inr rfl) (w_p1 (by decide) (Or.inr rfl) (w_p1 (by decide) (Or.inr rfl) e4991)))) (x4977.toInt + 1) rfl (by omega) (fun v5100 hv5100 => ?_)
                  refine r_goto ?_
                  have bv5101 := q_bnd v5009
                  exact ih4983 (400 - v5100.toInt) _ _ ⟨v5009, v5099, v5100, by first | rfl | omega, hI5097, hF5098, (w_p1 (by decide) (Or.inr rfl) (w_p1 (by decide) (Or.inr rfl) (w_p1 (by decide) (Or.inr rfl) (w_p1 (by decide) (Or.inr rfl) (w_p1 (by decide) (Or.inr rfl) e4984))))), (w_p1 (by decide) (Or.inr rfl) (w_p1 (by decide) (Or.inr rfl) (w_p1 (by decide) (Or.inr rfl) (w_p1 (by decide) (Or.inr rfl) (w_p1 (by decide) (Or.inr rfl) e4985))))), (w_p1 (by decide) (Or.inr rfl) (w_p1 (by decide) (Or.inr rfl) (w_p1 (by decide) (Or.inr rfl) (w_p1 (by decide) (Or.inr rfl) (w_p1 (by decide) (Or.inr rfl) e4986))))), (w_p1 (by decide) (Or.inr rfl) (w_p1 (by decide) (Or.inr rfl) (w_p1 (by decide) (Or.inr rfl) (w_p1 (by decide) (Or.inr rfl) (w_p1 (by decide) (Or.inr rfl) e4987))))), (w_p1 (by decide) (Or.inr rfl) (w_p1 (by decide) (Or.inr rfl) (w_p1 (by decide) (Or.inr rfl) (w_p1 (by decide) (Or.inr rfl) (w_p1 (by decide) (Or.inr rfl) e4988))))), (w_p1 (by decide) (Or.inr rfl) (w_p1 (by decide) (Or.inr rfl) (w_e1 _ _ _))), (w_p1 (by decide) (Or.inr rfl) (w_e1 _ _ _)), (w_e1 _ _ _), by omega, by omega, by omega⟩ ⟨by omega, by omega⟩
                · have c5096_ : v5008.toInt ≥ 0 := en_k_lt_f c5096
                  refine At.enter rfl ?_
                  refine r_iload (w_p1 (by decide) (Or.inr rfl) (w_e1 _ _ _)) ?_
                  refine r_bipush 9 rfl ?_
                  refine r_ics 117 rfl (fun c5102 => ?_) (fun c5102 => ?_)
                  · have c5102_ : v5008.toInt ≥ 9 := en_i_ge_t c5102
                    refine At.enter rfl ?_
                    refine r_lconst 0 rfl ?_
                    refine Ar.fall 128 rfl ?_
                    refine At.enter rfl ?_
                    refine q_last (Sh.lar hI4979.1 ka_187) (x4976.toInt) rfl (by omega) ?_
                    have hI5103 := HI.wK hI4979 ka_187 (x4976.toInt) (0) (by decide)
                    have hF5104 := Fr.wK (p := 187) (j := x4976.toInt) (v := 0) hF4980
                    refine q_iinc (w_p1 (by decide) (Or.inr rfl) (w_p1 (by decide) (Or.inr rfl) (w_p1 (by decide) (Or.inr rfl) e4990))) (x4976.toInt + 1) rfl (by omega) (fun v5105 hv5105 => ?_)
                    refine r_goto ?_
                    refine At.enter rfl ?_
                    refine q_iinc (w_p1 (by decide) (Or.inr rfl) (w_p1 (by decide) (Or.inr rfl) (w_p1 (by decide) (Or.inr rfl) (w_p1 (by decide) (Or.inr rfl) e4991)))) (x4977.toInt + 1) rfl (by omega) (fun v5106 hv5106 => ?_)
                    refine r_goto ?_
                    have bv5107 := q_bnd v5009
                    exact ih4983 (400 - v5106.toInt) _ _ ⟨v5009, v5105, v5106, by first | rfl | omega, hI5103, hF5104, (w_p1 (by decide) (Or.inr rfl) (w_p1 (by decide) (Or.inr rfl) (w_p1 (by decide) (Or.inr rfl) (w_p1 (by decide) (Or.inr rfl) (w_p1 (by decide) (Or.inr rfl) e4984))))), (w_p1 (by decide) (Or.inr rfl) (w_p1 (by decide) (Or.inr rfl) (w_p1 (by decide) (Or.inr rfl) (w_p1 (by decide) (Or.inr rfl) (w_p1 (by decide) (Or.inr rfl) e4985))))), (w_p1 (by decide) (Or.inr rfl) (w_p1 (by decide) (Or.inr rfl) (w_p1 (by decide) (Or.inr rfl) (w_p1 (by decide) (Or.inr rfl) (w_p1 (by decide) (Or.inr rfl) e4986))))), (w_p1 (by decide) (Or.inr rfl) (w_p1 (by decide) (Or.inr rfl) (w_p1 (by decide) (Or.inr rfl) (w_p1 (by decide) (Or.inr rfl) (w_p1 (by decide) (Or.inr rfl) e4987))))), (w_p1 (by decide) (Or.inr rfl) (w_p1 (by decide) (Or.inr rfl) (w_p1 (by decide) (Or.inr rfl) (w_p1 (by decide) (Or.inr rfl) (w_p1 (by decide) (Or.inr rfl) e4988))))), (w_p1 (by decide) (Or.inr rfl) (w_p1 (by decide) (Or.inr rfl) (w_e1 _ _ _))), (w_p1 (by decide) (Or.inr rfl) (w_e1 _ _ _)), (w_e1 _ _ _), by omega, by omega, by omega⟩ ⟨by omega, by omega⟩
                  · have c5102_ : v5008.toInt < 9 := en_i_ge_f c5102
                    refine At.enter rfl ?_
                    refine r_aload_n (w_p1 (by decide) (Or.inr rfl) (w_p1 (by decide) (Or.inr rfl) (w_p1 (by decide) (Or.inr rfl) e4984))) ?_
                    refine q_getR (Sh.ref hI4979.1 kx_185 rfl) ?_
                    refine r_iload (w_p1 (by decide) (Or.inr rfl) (w_e1 _ _ _)) ?_
                    refine q_lald (Sh.lar hI4979.1 ka_186) (v5008.toInt) rfl (by omega) (fun v5108 => ?_)
                    refine r_goto ?_
                    refine At.enter rfl ?_
                    refine q_last (Sh.lar hI4979.1 ka_187) (x4976.toInt) rfl (by omega) ?_
                    have hI5109 := HI.wK hI4979 ka_187 (x4976.toInt) (v5108) (by decide)
                    have hF5110 := Fr.wK (p := 187) (j := x4976.toInt) (v := v5108) hF4980
                    refine q_iinc (w_p1 (by decide) (Or.inr rfl) (w_p1 (by decide) (Or.inr rfl) (w_p1 (by decide) (Or.inr rfl) e4990))) (x4976.toInt + 1) rfl (by omega) (fun v5111 hv5111 => ?_)
                    refine r_goto ?_
                    refine At.enter rfl ?_
                    refine q_iinc (w_p1 (by decide) (Or.inr rfl) (w_p1 (by decide) (Or.inr rfl) (w_p1 (by decide) (Or.inr rfl) (w_p1 (by decide) (Or.inr rfl) e4991)))) (x4977.toInt + 1) rfl (by omega) (fun v5112 hv5112 => ?_)
                    refine r_goto ?_
                    have bv5113 := q_bnd v5009
                    exact ih4983 (400 - v5112.toInt) _ _ ⟨v5009, v5111, v5112, by first | rfl | omega, hI5109, hF5110, (w_p1 (by decide) (Or.inr rfl) (w_p1 (by decide) (Or.inr rfl) (w_p1 (by decide) (Or.inr rfl) (w_p1 (by decide) (Or.inr rfl) (w_p1 (by decide) (Or.inr rfl) e4984))))), (w_p1 (by decide) (Or.inr rfl) (w_p1 (by decide) (Or.inr rfl) (w_p1 (by decide) (Or.inr rfl) (w_p1 (by decide) (Or.inr rfl) (w_p1 (by decide) (Or.inr rfl) e4985))))), (w_p1 (by decide) (Or.inr rfl) (w_p1 (by decide) (Or.inr rfl) (w_p1 (by decide) (Or.inr rfl) (w_p1 (by decide) (Or.inr rfl) (w_p1 (by decide) (Or.inr rfl) e4986))))), (w_p1 (by decide) (Or.inr rfl) (w_p1 (by decide) (Or.inr rfl) (w_p1 (by decide) (Or.inr rfl) (w_p1 (by decide) (Or.inr rfl) (w_p1 (by decide) (Or.inr rfl) e4987))))), (w_p1 (by decide) (Or.inr rfl) (w_p1 (by decide) (Or.inr rfl) (w_p1 (by decide) (Or.inr rfl) (w_p1 (by decide) (Or.inr rfl) (w_p1 (by decide) (Or.inr rfl) e4988))))), (w_p1 (by decide) (Or.inr rfl) (w_p1 (by decide) (Or.inr rfl) (w_e1 _ _ _))), (w_p1 (by decide) (Or.inr rfl) (w_e1 _ _ _)), (w_e1 _ _ _), by omega, by omega, by omega⟩ ⟨by omega, by omega⟩
              · have c5095_ : v5007.toInt = 0 := en_k_ne_f c5095
                exfalso; omega
