def F_X11_addLoad_231 : List (Nat × Nat) := []
def A_X11_addLoad_231 : List Nat := [233]
set_option maxRecDepth 100000 in
set_option maxHeartbeats 4000000 in
theorem T_X11_addLoad_231 (d : Nat) {N : Nat} {g0 : List en_E} (hI0 : HI g0) (a1 : Int32) (h_a1 : 1 ≤ a1.toInt ∧ a1.toInt ≤ 9) (a2 : Int32) (h_a2 : 0 ≤ a2.toInt ∧ a2.toInt ≤ 11) (a3 : Int32) (h_a3 : 0 ≤ a3.toInt ∧ a3.toInt ≤ 11) (a4 : Int32) (h_a4 : 0 ≤ a4.toInt ∧ a4.toInt ≤ 99) (a5 : Int32) (h_a5 : 0 ≤ a5.toInt ∧ a5.toInt ≤ 9) (a6 : Int32) (h_a6 : 0 ≤ a6.toInt ∧ a6.toInt ≤ 9999) (h1 : (eA g0 233 1).toInt < 8) (h2 : a2.toInt < (eA g0 233 0).toInt) (h3 : a3.toInt < (eA g0 233 0).toInt) : Ev (d + 1) 177 [.ref 231, .int a1, .int a2, .int a3, .int a4, .int a5, .int a6] (g0, N) (fun w h' => ∃ g', h' = (g', N) ∧ HI g' ∧ Fr F_X11_addLoad_231 A_X11_addLoad_231 g0 g' ∧ w = none ∧ ((∀ i : Int, 0 ≤ i → i < 46 → i ≠ 1 → eA g' 233 i = eA g0 233 i) ∧ (eA g' 233 1).toInt = (eA g0 233 1).toInt + 1 ∧ (∀ i : Int, 94 ≤ i → i < 110 → (eA g' 233 (i)).toInt = (eA g0 233 (i)).toInt) ∧ (∀ i : Int, 46 ≤ i → i < 94 → (eA g' 233 (i)).toInt = if i = 46 + 6 * (eA g0 233 1).toInt + 0 then a1.toInt else if i = 46 + 6 * (eA g0 233 1).toInt + 1 then a2.toInt else if i = 46 + 6 * (eA g0 233 1).toInt + 2 then a3.toInt else if i = 46 + 6 * (eA g0 233 1).toInt + 3 then a4.toInt else if i = 46 + 6 * (eA g0 233 1).toInt + 4 then a5.toInt else if i = 46 + 6 * (eA g0 233 1).toInt + 5 then a6.toInt else (eA g0 233 (i)).toInt))) := by
  have hF0 : Fr F_X11_addLoad_231 A_X11_addLoad_231 g0 g0 := Fr.rf
  refine Ev.mk rfl rfl ⟨Nat.le_of_ble_eq_true rfl, Or.inr (q_rc hI0.1 kx_231 rfl)⟩ ?_
  show At _ none _ _ (0, [(0, .ref 231), (1, .int a1), (2, .int a2), (3, .int a3), (4, .int a4), (5, .int a5), (6, .int a6)], [], (_, _)) _
  refine At.enter rfl ?_
  refine r_bipush 46 rfl ?_
  refine r_bipush 6 rfl ?_
  refine r_aload_n rfl ?_
  refine q_getR (Sh.ref hI0.1 kx_231 rfl) ?_
  refine r_iconst 1 rfl ?_
  obtain ⟨v59, hv59⟩ : ∃ v, eA g0 233 1 = v := ⟨_, rfl⟩
  have tv59 := congrArg Int32.toInt hv59
  have wv59 := HI.t1 hI0
  rw [hv59] at wv59
  have uv59 := h1; rw [hv59] at uv59
  refine q_iald (Sh.arr hI0.1 ka_233) 1 rfl (by decide) v59 hv59 ?_
  refine q_imul (6 * v59.toInt) rfl (by omega) (fun v60 hv60 => ?_)
  refine q_iadd (46 + v60.toInt) rfl (by omega) (fun v61 hv61 => ?_)
  refine r_istore ([(7, .int v61), (0, .ref 231), (1, .int a1), (2, .int a2), (3, .int a3), (4, .int a4), (5, .int a5), (6, .int a6)]) rfl ?_
  refine r_aload_n rfl ?_
  refine q_getR (Sh.ref hI0.1 kx_231 rfl) ?_
  refine r_iload rfl ?_
  refine r_iload_n rfl ?_
  refine q_iast (Sh.arr hI0.1 ka_233) ((6 * v59.toInt + 46)) (by omega) (by omega) ?_
  have hI62 := HI.wl hI0 (j := (6 * v59.toInt + 46)) (v := a1) (v59.toInt) 0 (by omega) (by decide) (by omega) (by omega)
  have hF63 := Fr.wA (p := 233) (j := (6 * v59.toInt + 46)) (v := a1) hF0 rfl
  refine r_aload_n rfl ?_
  refine q_getR (Sh.ref hI62.1 kx_231 rfl) ?_
  refine r_iload rfl ?_
  refine r_iconst 1 rfl ?_
  refine q_iadd (v61.toInt + 1) rfl (by omega) (fun v64 hv64 => ?_)
  refine r_iload_n rfl ?_
  refine q_iast (Sh.arr hI62.1 ka_233) ((6 * v59.toInt + 47)) (by omega) (by omega) ?_
  obtain ⟨v67, hv67⟩ : ∃ v, eA g0 233 0 = v := ⟨_, rfl⟩
  have tv67 := congrArg Int32.toInt hv67
  have wv67 := HI.t0 hI0
  rw [hv67] at wv67
  have uv67 := h2; rw [hv67] at uv67
  have wv67_ := h3; rw [hv67] at wv67_
  have tv67 := congrArg Int32.toInt hv67
  have x68 := HI.eqA hI62 (p := 233) (j := 0) (((eA_sA_ne hI0.1 ka_233 (by first | decide | omega) (by first | decide | omega) (by first | decide | omega)).trans hv67))
  have hI65 := HI.wl hI62 (j := (6 * v59.toInt + 47)) (v := a2) (v59.toInt) 1 (by omega) (by decide) (by omega) (by omega)
  have hF66 := Fr.wA (p := 233) (j := (6 * v59.toInt + 47)) (v := a2) hF63 rfl
  refine r_aload_n rfl ?_
  refine q_getR (Sh.ref hI65.1 kx_231 rfl) ?_
  refine r_iload rfl ?_
  refine r_iconst 2 rfl ?_
  refine q_iadd (v61.toInt + 2) rfl (by omega) (fun v69 hv69 => ?_)
  refine r_iload_n rfl ?_
  refine q_iast (Sh.arr hI65.1 ka_233) ((6 * v59.toInt + 48)) (by omega) (by omega) ?_
  have x72 := HI.eqA hI65 (p := 233) (j := 0) ((((eA_sA_ne hI62.1 ka_233 (by first | decide | omega) (by first | decide | omega) (by first | decide | omega)).trans (eA_sA_ne hI0.1 ka_233 (by first | decide | omega) (by first | decide | omega) (by first | decide | omega))).trans hv67))
  have hI70 := HI.wl hI65 (j := (6 * v59.toInt + 48)) (v := a3) (v59.toInt) 2 (by omega) (by decide) (by omega) (by omega)
  have hF71 := Fr.wA (p := 233) (j := (6 * v59.toInt + 48)) (v := a3) hF66 rfl
  refine r_aload_n rfl ?_
  refine q_getR (Sh.ref hI70.1 kx_231 rfl) ?_
  refine r_iload rfl ?_
  refine r_iconst 3 rfl ?_
  refine q_iadd (v61.toInt + 3) rfl (by omega) (fun v73 hv73 => ?_)
  refine r_iload rfl ?_
  refine q_iast (Sh.arr hI70.1 ka_233) ((6 * v59.toInt + 49)) (by omega) (by omega) ?_
  have hI74 := HI.wl hI70 (j := (6 * v59.toInt + 49)) (v := a4) (v59.toInt) 3 (by omega) (by decide) (by omega) (by omega)
  have hF75 := Fr.wA (p := 233) (j := (6 * v59.toInt + 49)) (v := a4) hF71 rfl
  refine r_aload_n rfl ?_
  refine q_getR (Sh.ref hI74.1 kx_231 rfl) ?_
  refine r_iload rfl ?_
  refine r_iconst 4 rfl ?_
  refine q_iadd (v61.toInt + 4) rfl (by omega) (fun v76 hv76 => ?_)
  refine r_iload rfl ?_
  refine q_iast (Sh.arr hI74.1 ka_233) ((6 * v59.toInt + 50)) (by omega) (by omega) ?_
  have hI77 := HI.wl hI74 (j := (6 * v59.toInt + 50)) (v := a5) (v59.toInt) 4 (by omega) (by decide) (by omega) (by omega)
  have hF78 := Fr.wA (p := 233) (j := (6 * v59.toInt + 50)) (v := a5) hF75 rfl
  refine r_aload_n rfl ?_
  refine q_getR (Sh.ref hI77.1 kx_231 rfl) ?_
  refine r_iload rfl ?_
  refine r_iconst 5 rfl ?_
  refine q_iadd (v61.toInt + 5) rfl (by omega) (fun v79 hv79 => ?_)
  refine r_iload rfl ?_
  refine q_iast (Sh.arr hI77.1 ka_233) ((6 * v59.toInt + 51)) (by omega) (by omega) ?_
  have hI80 := HI.wl hI77 (j := (6 * v59.toInt + 51)) (v := a6) (v59.toInt) 5 (by omega) (by decide) (by omega) (by omega)
  have hF81 := Fr.wA (p := 233) (j := (6 * v59.toInt + 51)) (v := a6) hF78 rfl
  refine r_aload_n rfl ?_
  refine q_getR (Sh.ref hI80.1 kx_231 rfl) ?_
  refine r_iconst 1 rfl ?_
  refine r_dup2 ⟨rfl, rfl⟩ ?_
  refine q_iald (Sh.arr hI80.1 ka_233) 1 rfl (by decide) v59 (((eA_sA_ne hI77.1 ka_233 (by first | decide | omega) (by first | decide | omega) (by first | decide | omega)).trans ((eA_sA_ne hI74.1 ka_233 (by first | decide | omega) (by first | decide | omega) (by first | decide | omega)).trans ((eA_sA_ne hI70.1 ka_233 (by first | decide | omega) (by first | decide | omega) (by first | decide | omega)).trans ((eA_sA_ne hI65.1 ka_233 (by first | decide | omega) (by first | decide | omega) (by first | decide | omega)).trans ((eA_sA_ne hI62.1 ka_233 (by first | decide | omega) (by first | decide | omega) (by first | decide | omega)).trans (eA_sA_ne hI0.1 ka_233 (by first | decide | omega) (by first | decide | omega) (by first | decide | omega))))))).trans hv59) ?_
  refine r_iconst 1 rfl ?_
  refine q_iadd (v59.toInt + 1) rfl (by omega) (fun v82 hv82 => ?_)
  refine q_iast (Sh.arr hI80.1 ka_233) (1) rfl (by decide) ?_
  have x85 := HI.eqA hI80 (p := 233) (j := 0) ((((eA_sA_ne hI77.1 ka_233 (by first | decide | omega) (by first | decide | omega) (by first | decide | omega)).trans ((eA_sA_ne hI74.1 ka_233 (by first | decide | omega) (by first | decide | omega) (by first | decide | omega)).trans ((eA_sA_ne hI70.1 ka_233 (by first | decide | omega) (by first | decide | omega) (by first | decide | omega)).trans ((eA_sA_ne hI65.1 ka_233 (by first | decide | omega) (by first | decide | omega) (by first | decide | omega)).trans ((eA_sA_ne hI62.1 ka_233 (by first | decide | omega) (by first | decide | omega) (by first | decide | omega)).trans (eA_sA_ne hI0.1 ka_233 (by first | decide | omega) (by first | decide | omega) (by first | decide | omega))))))).trans hv67))
  have x86 := HI.eqA hI80 (p := 233) (j := 1) ((((eA_sA_ne hI77.1 ka_233 (by first | decide | omega) (by first | decide | omega) (by first | decide | omega)).trans ((eA_sA_ne hI74.1 ka_233 (by first | decide | omega) (by first | decide | omega) (by first | decide | omega)).trans ((eA_sA_ne hI70.1 ka_233 (by first | decide | omega) (by first | decide | omega) (by first | decide | omega)).trans ((eA_sA_ne hI65.1 ka_233 (by first | decide | omega) (by first | decide | omega) (by first | decide | omega)).trans ((eA_sA_ne hI62.1 ka_233 (by first | decide | omega) (by first | decide | omega) (by first | decide | omega)).trans (eA_sA_ne hI0.1 ka_233 (by first | decide | omega) (by first | decide | omega) (by first | decide | omega))))))).trans hv59))
  have yv87 := HI.lt hI80
  have hI83 := HI.wt hI80 (j := 1) (v := v82) (by omega) (by omega)
  have hF84 := Fr.wA (p := 233) (j := 1) (v := v82) hF81 rfl
  refine r_vret ?_
  have x88 := HI.eqA hI83 (p := 233) (j := 1) ((eA_sA_eq hI80.1 ka_233 (by first | rfl | omega) (by first | decide | omega) (by first | decide | omega)))
  have x89 := HI.eqA hI0 (p := 233) (j := 1) (hv59)
  have x90 := HI.eqA hI0 (p := 233) (j := 0) (hv67)
  exact ⟨_, rfl, hI83, hF84, rfl, ⟨(fun i i0 i1 i2 => ((eA_sA_ne (i := i) hI80.1 ka_233 (by omega) (by first | decide | omega) (by omega)).trans ((eA_sA_ne (i := i) hI77.1 ka_233 (by omega) (by first | decide | omega) (by omega)).trans ((eA_sA_ne (i := i) hI74.1 ka_233 (by omega) (by first | decide | omega) (by omega)).trans ((eA_sA_ne (i := i) hI70.1 ka_233 (by omega) (by first | decide | omega) (by omega)).trans ((eA_sA_ne (i := i) hI65.1 ka_233 (by omega) (by first | decide | omega) (by omega)).trans ((eA_sA_ne (i := i) hI62.1 ka_233 (by omega) (by first | decide | omega) (by omega)).trans (eA_sA_ne (i := i) hI0.1 ka_233 (by omega) (by first | decide | omega) (by omega))))))))), by omega, (by intro i i0 i1; exact (Decidable.em (i = 1)).elim (fun k197_ => by refine (eA_eqT hI80.1 ka_233 k197_ (by first | decide | omega) (by first | decide | omega)).trans ?_; (first | (rfl) | (omega))) (fun k197_ => by refine (eA_neT hI80.1 ka_233 k197_ (by first | decide | omega) (by omega)).trans ?_; exact (Decidable.em (i = (6 * v59.toInt + 51))).elim (fun k198_ => by refine (eA_eqT hI77.1 ka_233 k198_ (by first | decide | omega) (by first | decide | omega)).trans ?_; (first | (rfl) | (omega))) (fun k198_ => by refine (eA_neT hI77.1 ka_233 k198_ (by first | decide | omega) (by omega)).trans ?_; exact (Decidable.em (i = (6 * v59.toInt + 50))).elim (fun k199_ => by refine (eA_eqT hI74.1 ka_233 k199_ (by first | decide | omega) (by first | decide | omega)).trans ?_; (first | (rfl) | (omega))) (fun k199_ => by refine (eA_neT hI74.1 ka_233 k199_ (by first | decide | omega) (by omega)).trans ?_; exact (Decidable.em (i = (6 * v59.toInt + 49))).elim (fun k200_ => by refine (eA_eqT hI70.1 ka_233 k200_ (by first | decide | omega) (by first | decide | omega)).trans ?_; (first | (rfl) | (omega))) (fun k200_ => by refine (eA_neT hI70.1 ka_233 k200_ (by first | decide | omega) (by omega)).trans ?_; exact (Decidable.em (i = (6 * v59.toInt + 48))).elim (fun k201_ => by refine (eA_eqT hI65.1 ka_233 k201_ (by first | decide | omega) (by first | decide | omega)).trans ?_; (first | (rfl) | (omega))) (fun k201_ => by refine (eA_neT hI65.1 ka_233 k201_ (by first | decide | omega) (by omega)).trans ?_; exact (Decidable.em (i = (6 * v59.toInt + 47))).elim (fun k202_ => by refine (eA_eqT hI62.1 ka_233 k202_ (by first | decide | omega) (by first | decide | omega)).trans ?_; (first | (rfl) | (omega))) (fun k202_ => by refine (eA_neT hI62.1 ka_233 k202_ (by first | decide | omega) (by omega)).trans ?_; exact (Decidable.em (i = (6 * v59.toInt + 46))).elim (fun k203_ => by refine (eA_eqT hI0.1 ka_233 k203_ (by first | decide | omega) (by first | decide | omega)).trans ?_; (first | (rfl) | (omega))) (fun k203_ => by refine (eA_neT hI0.1 ka_233 k203_ (by first | decide | omega) (by omega)).trans ?_; (first | rfl | exact eA_ix (by omega) | omega))))))))), (by intro i i0 i1; exact (Decidable.em (i = 46 + 6 * (eA g0 233 1).toInt + 0)).elim (fun k204_ => by refine Eq.trans ?_ (if_pos k204_).symm; exact (Decidable.em (i = 1)).elim (fun k205_ => by refine (eA_eqT hI80.1 ka_233 k205_ (by first | decide | omega) (by first | decide | omega)).trans ?_; (first | (rfl) | (omega))) (fun k205_ => by refine (eA_neT hI80.1 ka_233 k205_ (by first | decide | omega) (by omega)).trans ?_; exact (Decidable.em (i = (6 * v59.toInt + 51))).elim (fun k206_ => by refine (eA_eqT hI77.1 ka_233 k206_ (by first | decide | omega) (by first | decide | omega)).trans ?_; (first | (rfl) | (omega))) (fun k206_ => by refine (eA_neT hI77.1 ka_233 k206_ (by first | decide | omega) (by omega)).trans ?_; exact (Decidable.em (i = (6 * v59.toInt + 50))).elim (fun k207_ => by refine (eA_eqT hI74.1 ka_233 k207_ (by first | decide | omega) (by first | decide | omega)).trans ?_; (first | (rfl) | (omega))) (fun k207_ => by refine (eA_neT hI74.1 ka_233 k207_ (by first | decide | omega) (by omega)).trans ?_; exact (Decidable.em (i = (6 * v59.toInt + 49))).elim (fun k208_ => by refine (eA_eqT hI70.1 ka_233 k208_ (by first | decide | omega) (by first | decide | omega)).trans ?_; (first | (rfl) | (omega))) (fun k208_ => by refine (eA_neT hI70.1 ka_233 k208_ (by first | decide | omega) (by omega)).trans ?_; exact (Decidable.em (i = (6 * v59.toInt + 48))).elim (fun k209_ => by refine (eA_eqT hI65.1 ka_233 k209_ (by first | decide | omega) (by first | decide | omega)).trans ?_; (first | (rfl) | (omega))) (fun k209_ => by refine (eA_neT hI65.1 ka_233 k209_ (by first | decide | omega) (by omega)).trans ?_; exact (Decidable.em (i = (6 * v59.toInt + 47))).elim (fun k210_ => by refine (eA_eqT hI62.1 ka_233 k210_ (by first | decide | omega) (by first | decide | omega)).trans ?_; (first | (rfl) | (omega))) (fun k210_ => by refine (eA_neT hI62.1 ka_233 k210_ (by first | decide | omega) (by omega)).trans ?_; exact (Decidable.em (i = (6 * v59.toInt + 46))).elim (fun k211_ => by refine (eA_eqT hI0.1 ka_233 k211_ (by first | decide | omega) (by first | decide | omega)).trans ?_; (first | (rfl) | (omega))) (fun k211_ => by refine (eA_neT hI0.1 ka_233 k211_ (by first | decide | omega) (by omega)).trans ?_; (first | rfl | exact eA_ix (by omega) | omega))))))))) (fun k204_ => by refine Eq.trans ?_ (if_neg k204_).symm; exact (Decidable.em (i = 46 + 6 * (eA g0 233 1).toInt + 1)).elim (fun k212_ => by refine Eq.trans ?_ (if_pos k212_).symm; exact (Decidable.em (i = 1)).elim (fun k213_ => by refine (eA_eqT hI80.1 ka_233 k213_ (by first | decide | omega) (by first | decide | omega)).trans ?_; (first | (rfl) | (omega))) (fun k213_ => by refine (eA_neT hI80.1 ka_233 k213_ (by first | decide | omega) (by omega)).trans ?_; exact (Decidable.em (i = (6 * v59.toInt + 51))).elim (fun k214_ => by refine (eA_eqT hI77.1 ka_233 k214_ (by first | decide | omega) (by first | decide | omega)).trans ?_; (first | (rfl) | (omega))) (fun k214_ => by refine (eA_neT hI77.1 ka_233 k214_ (by first | decide | omega) (by omega)).trans ?_; exact (Decidable.em (i = (6 * v59.toInt + 50))).elim (fun k215_ => by refine (eA_eqT hI74.1 ka_233 k215_ (by first | decide | omega) (by first | decide | omega)).trans ?_; (first | (rfl) | (omega))) (fun k215_ => by refine (eA_neT hI74.1 ka_233 k215_ (by first | decide | omega) (by omega)).trans ?_; exact (Decidable.em (i = (6 * v59.toInt + 49))).elim (fun k216_ => by refine (eA_eqT hI70.1 ka_233 k216_ (by first | decide | omega) (by first | decide | omega)).trans ?_; (first | (rfl) | (omega))) (fun k216_ => by refine (eA_neT hI70.1 ka_233 k216_ (by first | decide | omega) (by omega)).trans ?_; exact (Decidable.em (i = (6 * v59.toInt + 48))).elim (fun k217_ => by refine (eA_eqT hI65.1 ka_233 k217_ (by first | decide | omega) (by first | decide | omega)).trans ?_; (first | (rfl) | (omega))) (fun k217_ => by refine (eA_neT hI65.1 ka_233 k217_ (by first | decide | omega) (by omega)).trans ?_; exact (Decidable.em (i = (6 * v59.toInt + 47))).elim (fun k218_ => by refine (eA_eqT hI62.1 ka_233 k218_ (by first | decide | omega) (by first | decide | omega)).trans ?_; (first | (rfl) | (omega))) (fun k218_ => by refine (eA_neT hI62.1 ka_233 k218_ (by first | decide | omega) (by omega)).trans ?_; exact (Decidable.em (i = (6 * v59.toInt + 46))).elim (fun k219_ => by refine (eA_eqT hI0.1 ka_233 k219_ (by first | decide | omega) (by first | decide | omega)).trans ?_; (first | (rfl) | (omega))) (fun k219_ => by refine (eA_neT hI0.1 ka_233 k219_ (by first | decide | omega) (by omega)).trans ?_; (first | rfl | exact eA_ix (by omega) | omega))))))))) (fun k212_ => by refine Eq.trans ?_ (if_neg k212_).symm; exact (Decidable.em (i = 46 + 6 * (eA g0 233 1).toInt + 2)).elim (fun k220_ => by refine Eq.trans ?_ (if_pos k220_).symm; exact (Decidable.em (i = 1)).elim (fun k221_ => by refine (eA_eqT hI80.1 ka_233 k221_ (by first | decide | omega) (by first | decide | omega)).trans ?_; (first | (rfl) | (omega))) (fun k221_ => by refine (eA_neT hI80.1 ka_233 k221_ (by first | decide | omega) (by omega)).trans ?_; exact (Decidable.em (i = (6 * v59.toInt + 51))).elim (fun k222_ => by refine (eA_eqT hI77.1 ka_233 k222_ (by first | decide | omega) (by first | decide | omega)).trans ?_; (first | (rfl) | (omega))) (fun k222_ => by refine (eA_neT hI77.1 ka_233 k222_ (by first | decide | omega) (by omega)).trans ?_; exact (Decidable.em (i = (6 * v59.toInt + 50))).elim (fun k223_ => by refine (eA_eqT hI74.1 ka_233 k223_ (by first | decide | omega) (by first | decide | omega)).trans ?_; (first | (rfl) | (omega))) (fun k223_ => by refine (eA_neT hI74.1 ka_233 k223_ (by first | decide | omega) (by omega)).trans ?_; exact (Decidable.em (i = (6 * v59.toInt + 49))).elim (fun k224_ => by refine (eA_eqT hI70.1 ka_233 k224_ (by first | decide | omega) (by first | decide | omega)).trans ?_; (first | (rfl) | (omega))) (fun k224_ => by refine (eA_neT hI70.1 ka_233 k224_ (by first | decide | omega) (by omega)).trans ?_; exact (Decidable.em (i = (6 * v59.toInt + 48))).elim (fun k225_ => by refine (eA_eqT hI65.1 ka_233 k225_ (by first | decide | omega) (by first | decide | omega)).trans ?_; (first | (rfl) | (omega))) (fun k225_ => by refine (eA_neT hI65.1 ka_233 k225_ (by first | decide | omega) (by omega)).trans ?_; exact (Decidable.em (i = (6 * v59.toInt + 47))).elim (fun k226_ => by refine (eA_eqT hI62.1 ka_233 k226_ (by first | decide | omega) (by first | decide | omega)).trans ?_; (first | (rfl) | (omega))) (fun k226_ => by refine (eA_neT hI62.1 ka_233 k226_ (by first | decide | omega) (by omega)).trans ?_; exact (Decidable.em (i = (6 * v59.toInt + 46))).elim (fun k227_ => by refine (eA_eqT hI0.1 ka_233 k227_ (by first | decide | omega) (by first | decide | omega)).trans ?_; (first | (rfl) | (omega))) (fun k227_ => by refine (eA_neT hI0.1 ka_233 k227_ (by first | decide | omega) (by omega)).trans ?_; (first | rfl | exact eA_ix (by omega) | omega))))))))) (fun k220_ => by refine Eq.trans ?_ (if_neg k220_).symm; exact (Decidable.em (i = 46 + 6 * (eA g0 233 1).toInt + 3)).elim (fun k228_ => by refine Eq.trans ?_ (if_pos k228_).symm; exact (Decidable.em (i = 1)).elim (fun k229_ => by refine (eA_eqT hI80.1 ka_233 k229_ (by first | decide | omega) (by first | decide | omega)).trans ?_; (first | (rfl) | (omega))) (fun k229_ => by refine (eA_neT hI80.1 ka_233 k229_ (by first | decide | omega) (by omega)).trans ?_; exact (Decidable.em (i = (6 * v59.toInt + 51))).elim (fun k230_ => by refine (eA_eqT hI77.1 ka_233 k230_ (by first | decide | omega) (by first | decide | omega)).trans ?_; (first | (rfl) | (omega))) (fun k230_ => by refine (eA_neT hI77.1 ka_233 k230_ (by first | decide | omega) (by omega)).trans ?_; exact (Decidable.em (i = (6 * v59.toInt + 50))).elim (fun k231_ => by refine (eA_eqT hI74.1 ka_233 k231_ (by first | decide | omega) (by first | decide | omega)).trans ?_; (first | (rfl) | (omega))) (fun k231_ => by refine (eA_neT hI74.1 ka_233 k231_ (by first | decide | omega) (by omega)).trans ?_; exact (Decidable.em (i = (6 * v59.toInt + 49))).elim (fun k232_ => by refine (eA_eqT hI70.1 ka_233 k232_ (by first | decide | omega) (by first | decide | omega)).trans ?_; (first | (rfl) | (omega))) (fun k232_ => by refine (eA_neT hI70.1 ka_233 k232_ (by first | decide | omega) (by omega)).trans ?_; exact (Decidable.em (i = (6 * v59.toInt + 48))).elim (fun k233_ => by refine (eA_eqT hI65.1 ka_233 k233_ (by first | decide | omega) (by first | decide | omega)).trans ?_; (first | (rfl) | (omega))) (fun k233_ => by refine (eA_neT hI65.1 ka_233 k233_ (by first | decide | omega) (by omega)).trans ?_; exact (Decidable.em (i = (6 * v59.toInt + 47))).elim (fun k234_ => by refine (eA_eqT hI62.1 ka_233 k234_ (by first | decide | omega) (by first | decide | omega)).trans ?_; (first | (rfl) | (omega))) (fun k234_ => by refine (eA_neT hI62.1 ka_233 k234_ (by first | decide | omega) (by omega)).trans ?_; exact (Decidable.em (i = (6 * v59.toInt + 46))).elim (fun k235_ => by refine (eA_eqT hI0.1 ka_233 k235_ (by first | decide | omega) (by first | decide | omega)).trans ?_; (first | (rfl) | (omega))) (fun k235_ => by refine (eA_neT hI0.1 ka_233 k235_ (by first | decide | omega) (by omega)).trans ?_; (first | rfl | exact eA_ix (by omega) | omega))))))))) (fun k228_ => by refine Eq.trans ?_ (if_neg k228_).symm; exact (Decidable.em (i = 46 + 6 * (eA g0 233 1).toInt + 4)).elim (fun k236_ => by refine Eq.trans ?_ (if_pos k236_).symm; exact (Decidable.em (i = 1)).elim (fun k237_ => by refine (eA_eqT hI80.1 ka_233 k237_ (by first | decide | omega) (by first | decide | omega)).trans ?_; (first | (rfl) | (omega))) (fun k237_ => by refine (eA_neT hI80.1 ka_233 k237_ (by first | decide | omega) (by omega)).trans ?_; exact (Decidable.em (i = (6 * v59.toInt + 51))).elim (fun k238_ => by refine (eA_eqT hI77.1 ka_233 k238_ (by first | decide | omega) (by first | decide | omega)).trans ?_; (first | (rfl) | (omega))) (fun k238_ => by refine (eA_neT hI77.1 ka_233 k238_ (by first | decide | omega) (by omega)).trans ?_; exact (Decidable.em (i = (6 * v59.toInt + 50))).elim (fun k239_ => by refine (eA_eqT hI74.1 ka_233 k239_ (by first | decide | omega) (by first | decide | omega)).trans ?_; (first | (rfl) | (omega))) (fun k239_ => by refine (eA_neT hI74.1 ka_233 k239_ (by first | decide | omega) (by omega)).trans ?_; exact (Decidable.em (i = (6 * v59.toInt + 49))).elim (fun k240_ => by refine (eA_eqT hI70.1 ka_233 k240_ (by first | decide | omega) (by first | decide | omega)).trans ?_; (first | (rfl) | (omega))) (fun k240_ => by refine (eA_neT hI70.1 ka_233 k240_ (by first | decide | omega) (by omega)).trans ?_; exact (Decidable.em (i = (6 * v59.toInt + 48))).elim (fun k241_ => by refine (eA_eqT hI65.1 ka_233 k241_ (by first | decide | omega) (by first | decide | omega)).trans ?_; (first | (rfl) | (omega))) (fun k241_ => by refine (eA_neT hI65.1 ka_233 k241_ (by first | decide | omega) (by omega)).trans ?_; exact (Decidable.em (i = (6 * v59.toInt + 47))).elim (fun k242_ => by refine (eA_eqT hI62.1 ka_233 k242_ (by first | decide | omega) (by first | decide | omega)).trans ?_; (first | (rfl) | (omega))) (fun k242_ => by refine (eA_neT hI62.1 ka_233 k242_ (by first | decide | omega) (by omega)).trans ?_; exact (Decidable.em (i = (6 * v59.toInt + 46))).elim (fun k243_ => by refine (eA_eqT hI0.1 ka_233 k243_ (by first | decide | omega) (by first | decide | omega)).trans ?_; (first | (rfl) | (omega))) (fun k243_ => by refine (eA_neT hI0.1 ka_233 k243_ (by first | decide | omega) (by omega)).trans ?_; (first | rfl | exact eA_ix (by omega) | omega))))))))) (fun k236_ => by refine Eq.trans ?_ (if_neg k236_).symm; exact (Decidable.em (i = 46 + 6 * (eA g0 233 1).toInt + 5)).elim (fun k244_ => by refine Eq.trans ?_ (if_pos k244_).symm; exact (Decidable.em (i = 1)).elim (fun k245_ => by refine (eA_eqT hI80.1 ka_233 k245_ (by first | decide | omega) (by first | decide | omega)).trans ?_; (first | (rfl) | (omega))) (fun k245_ => by refine (eA_neT hI80.1 ka_233 k245_ (by first | decide | omega) (by omega)).trans ?_; exact (Decidable.em (i = (6 * v59.toInt + 51))).elim (fun k246_ => by refine (eA_eqT hI77.1 ka_233 k246_ (by first | decide | omega) (by first | decide | omega)).trans ?_; (first | (rfl) | (omega))) (fun k246_ => by refine (eA_neT hI77.1 ka_233 k246_ (by first | decide | omega) (by omega)).trans ?_; exact (Decidable.em (i = (6 * v59.toInt + 50))).elim (fun k247_ => by refine (eA_eqT hI74.1 ka_233 k247_ (by first | decide | omega) (by first | decide | omega)).trans ?_; (first | (rfl) | (omega))) (fun k247_ => by refine (eA_neT hI74.1 ka_233 k247_ (by first | decide | omega) (by omega)).trans ?_; exact (Decidable.em (i = (6 * v59.toInt + 49))).elim (fun k248_ => by refine (eA_eqT hI70.1 ka_233 k248_ (by first | decide | omega) (by first | decide | omega)).trans ?_; (first | (rfl) | (omega))) (fun k248_ => by refine (eA_neT hI70.1 ka_233 k248_ (by first | decide | omega) (by omega)).trans ?_; exact (Decidable.em (i = (6 * v59.toInt + 48))).elim (fun k249_ => by refine (eA_eqT hI65.1 ka_233 k249_ (by first | decide | omega) (by first | decide | omega)).trans ?_; (first | (rfl) | (omega))) (fun k249_ => by refine (eA_neT hI65.1 ka_233 k249_ (by first | decide | omega) (by omega)).trans ?_; exact (Decidable.em (i = (6 * v59.toInt + 47))).elim (fun k250_ => by refine (eA_eqT hI62.1 ka_233 k250_ (by first | decide | omega) (by first | decide | omega)).trans ?_; (first | (rfl) | (omega))) (fun k250_ => by refine (eA_neT hI62.1 ka_233 k250_ (by first | decide | omega) (by omega)).trans ?_; exact (Decidable.em (i = (6 * v59.toInt + 46))).elim (fun k251_ => by refine (eA_eqT hI0.1 ka_233 k251_ (by first | decide | omega) (by first | decide | omega)).trans ?_; (first | (rfl) | (omega))) (fun k251_ => by refine (eA_neT hI0.1 ka_233 k251_ (by first | decide | omega) (by omega)).trans ?_; (first | rfl | exact eA_ix (by omega) | omega))))))))) (fun k244_ => by refine Eq.trans ?_ (if_neg k244_).symm; exact (Decidable.em (i = 1)).elim (fun k252_ => by refine (eA_eqT hI80.1 ka_233 k252_ (by first | decide | omega) (by first | decide | omega)).trans ?_; (first | (rfl) | (omega))) (fun k252_ => by refine (eA_neT hI80.1 ka_233 k252_ (by first | decide | omega) (by omega)).trans ?_; exact (Decidable.em (i = (6 * v59.toInt + 51))).elim (fun k253_ => by refine (eA_eqT hI77.1 ka_233 k253_ (by first | decide | omega) (by first | decide | omega)).trans ?_; (first | (rfl) | (omega))) (fun k253_ => by refine (eA_neT hI77.1 ka_233 k253_ (by first | decide | omega) (by omega)).trans ?_; exact (Decidable.em (i = (6 * v59.toInt + 50))).elim (fun k254_ => by refine (eA_eqT hI74.1 ka_233 k254_ (by first | decide | omega) (by first | decide | omega)).trans ?_; (first | (rfl) | (omega))) (fun k254_ => by refine (eA_neT hI74.1 ka_233 k254_ (by first | decide | omega) (by omega)).trans ?_; exact (Decidable.em (i = (6 * v59.toInt + 49))).elim (fun k255_ => by refine (eA_eqT hI70.1 ka_233 k255_ (by first | decide | omega) (by first | decide | omega)).trans ?_; (first | (rfl) | (omega))) (fun k255_ => by refine (eA_neT hI70.1 ka_233 k255_ (by first | decide | omega) (by omega)).trans ?_; exact (Decidable.em (i = (6 * v59.toInt + 48))).elim (fun k256_ => by refine (eA_eqT hI65.1 ka_233 k256_ (by first | decide | omega) (by first | decide | omega)).trans ?_; (first | (rfl) | (omega))) (fun k256_ => by refine (eA_neT hI65.1 ka_233 k256_ (by first | decide | omega) (by omega)).trans ?_; exact (Decidable.em (i = (6 * v59.toInt + 47))).elim (fun k257_ => by refine (eA_eqT hI62.1 ka_233 k257_ (by first | decide | omega) (by first | decide | omega)).trans ?_; (first | (rfl) | (omega))) (fun k257_ => by refine (eA_neT hI62.1 ka_233 k257_ (by first | decide | omega) (by omega)).trans ?_; exact (Decidable.em (i = (6 * v59.toInt + 46))).elim (fun k258_ => by refine (eA_eqT hI0.1 ka_233 k258_ (by first | decide | omega) (by first | decide | omega)).trans ?_; (first | (rfl) | (omega))) (fun k258_ => by refine (eA_neT hI0.1 ka_233 k258_ (by first | decide | omega) (by omega)).trans ?_; (first | rfl | exact eA_ix (by omega) | omega)))))))))))))))⟩⟩

def F_X11_load_231 : List (Nat × Nat) := [(231, 0), (231, 1)]
def A_X11_load_231 : List Nat := [232, 233]
set_option maxRecDepth 100000 in
set_option maxHeartbeats 4000000 in
theorem T_X11_load_231 (d : Nat) {N : Nat} {g0 : List en_E} (hI0 : HI g0) (a1 : Int32) (a2 : Int32) (a3 : Int32) (a4 : Int32) (a5 : Int32) (a6 : Int32) : Ev (d + 3) 178 [.ref 231, .int a1, .int a2, .int a3, .int a4, .int a5, .int a6] (g0, N) (fun w h' => ∃ g', h' = (g', N) ∧ HI g' ∧ Fr F_X11_load_231 A_X11_load_231 g0 g' ∧ ∃ r : Int32, w = some (.int r) ∧ ((-5) ≤ r.toInt ∧ r.toInt ≤ 7) ∧ (((¬ (1 ≤ a1.toInt ∧ a1.toInt ≤ 9 ∧ 0 ≤ a4.toInt ∧ a4.toInt ≤ 99 ∧ 0 ≤ a5.toInt ∧ a5.toInt ≤ 9 ∧ 0 ≤ a6.toInt ∧ a6.toInt ≤ 9999) → r.toInt = -1 ∧ (eA g' 233 1).toInt = (eA g0 233 1).toInt) ∧ ((1 ≤ a1.toInt ∧ a1.toInt ≤ 9 ∧ 0 ≤ a4.toInt ∧ a4.toInt ≤ 99 ∧ 0 ≤ a5.toInt ∧ a5.toInt ≤ 9 ∧ 0 ≤ a6.toInt ∧ a6.toInt ≤ 9999) ∧ ¬ (0 ≤ a2.toInt ∧ a2.toInt < (eA g0 233 0).toInt ∧ 0 ≤ a3.toInt ∧ a3.toInt < (eA g0 233 0).toInt) → r.toInt = -2 ∧ (eA g' 233 1).toInt = (eA g0 233 1).toInt) ∧ ((1 ≤ a1.toInt ∧ a1.toInt ≤ 9 ∧ 0 ≤ a4.toInt ∧ a4.toInt ≤ 99 ∧ 0 ≤ a5.toInt ∧ a5.toInt ≤ 9 ∧ 0 ≤ a6.toInt ∧ a6.toInt ≤ 9999) ∧ (0 ≤ a2.toInt ∧ a2.toInt < (eA g0 233 0).toInt ∧ 0 ≤ a3.toInt ∧ a3.toInt < (eA g0 233 0).toInt) ∧ 8 ≤ (eA g0 233 1).toInt → r.toInt = -5 ∧ (eA g' 233 1).toInt = (eA g0 233 1).toInt) ∧ ((1 ≤ a1.toInt ∧ a1.toInt ≤ 9 ∧ 0 ≤ a4.toInt ∧ a4.toInt ≤ 99 ∧ 0 ≤ a5.toInt ∧ a5.toInt ≤ 9 ∧ 0 ≤ a6.toInt ∧ a6.toInt ≤ 9999) ∧ (0 ≤ a2.toInt ∧ a2.toInt < (eA g0 233 0).toInt ∧ 0 ≤ a3.toInt ∧ a3.toInt < (eA g0 233 0).toInt) ∧ (eA g0 233 1).toInt < 8 → r.toInt = (eA g0 233 1).toInt ∧ (eA g' 233 1).toInt = (eA g0 233 1).toInt + 1) ∧ (eA g' 233 0).toInt = (eA g0 233 0).toInt ∧ (eA g' 233 4).toInt = (eA g0 233 4).toInt ∧ (eA g' 233 5).toInt = (eA g0 233 5).toInt ∧ (eA g' 233 6).toInt = (eA g0 233 6).toInt) ∧ (∀ i : Int, 10 ≤ i → i < 46 → (eA g' 233 (i)).toInt = (eA g0 233 (i)).toInt) ∧ (∀ i : Int, 94 ≤ i → i < 110 → (eA g' 233 (i)).toInt = (eA g0 233 (i)).toInt) ∧ (∀ i : Int, 46 ≤ i → i < 94 → (eA g' 233 (i)).toInt = if ((1 ≤ a1.toInt ∧ a1.toInt ≤ 9 ∧ 0 ≤ a4.toInt ∧ a4.toInt ≤ 99 ∧ 0 ≤ a5.toInt ∧ a5.toInt ≤ 9 ∧ 0 ≤ a6.toInt ∧ a6.toInt ≤ 9999) ∧ (0 ≤ a2.toInt ∧ a2.toInt < (eA g0 233 0).toInt ∧ 0 ≤ a3.toInt ∧ a3.toInt < (eA g0 233 0).toInt) ∧ (eA g0 233 1).toInt < 8) ∧ i = 46 + 6 * (eA g0 233 1).toInt + 0 then a1.toInt else if ((1 ≤ a1.toInt ∧ a1.toInt ≤ 9 ∧ 0 ≤ a4.toInt ∧ a4.toInt ≤ 99 ∧ 0 ≤ a5.toInt ∧ a5.toInt ≤ 9 ∧ 0 ≤ a6.toInt ∧ a6.toInt ≤ 9999) ∧ (0 ≤ a2.toInt ∧ a2.toInt < (eA g0 233 0).toInt ∧ 0 ≤ a3.toInt ∧ a3.toInt < (eA g0 233 0).toInt) ∧ (eA g0 233 1).toInt < 8) ∧ i = 46 + 6 * (eA g0 233 1).toInt + 1 then a2.toInt else if ((1 ≤ a1.toInt ∧ a1.toInt ≤ 9 ∧ 0 ≤ a4.toInt ∧ a4.toInt ≤ 99 ∧ 0 ≤ a5.toInt ∧ a5.toInt ≤ 9 ∧ 0 ≤ a6.toInt ∧ a6.toInt ≤ 9999) ∧ (0 ≤ a2.toInt ∧ a2.toInt < (eA g0 233 0).toInt ∧ 0 ≤ a3.toInt ∧ a3.toInt < (eA g0 233 0).toInt) ∧ (eA g0 233 1).toInt < 8) ∧ i = 46 + 6 * (eA g0 233 1).toInt + 2 then a3.toInt else if ((1 ≤ a1.toInt ∧ a1.toInt ≤ 9 ∧ 0 ≤ a4.toInt ∧ a4.toInt ≤ 99 ∧ 0 ≤ a5.toInt ∧ a5.toInt ≤ 9 ∧ 0 ≤ a6.toInt ∧ a6.toInt ≤ 9999) ∧ (0 ≤ a2.toInt ∧ a2.toInt < (eA g0 233 0).toInt ∧ 0 ≤ a3.toInt ∧ a3.toInt < (eA g0 233 0).toInt) ∧ (eA g0 233 1).toInt < 8) ∧ i = 46 + 6 * (eA g0 233 1).toInt + 3 then a4.toInt else if ((1 ≤ a1.toInt ∧ a1.toInt ≤ 9 ∧ 0 ≤ a4.toInt ∧ a4.toInt ≤ 99 ∧ 0 ≤ a5.toInt ∧ a5.toInt ≤ 9 ∧ 0 ≤ a6.toInt ∧ a6.toInt ≤ 9999) ∧ (0 ≤ a2.toInt ∧ a2.toInt < (eA g0 233 0).toInt ∧ 0 ≤ a3.toInt ∧ a3.toInt < (eA g0 233 0).toInt) ∧ (eA g0 233 1).toInt < 8) ∧ i = 46 + 6 * (eA g0 233 1).toInt + 4 then a5.toInt else if ((1 ≤ a1.toInt ∧ a1.toInt ≤ 9 ∧ 0 ≤ a4.toInt ∧ a4.toInt ≤ 99 ∧ 0 ≤ a5.toInt ∧ a5.toInt ≤ 9 ∧ 0 ≤ a6.toInt ∧ a6.toInt ≤ 9999) ∧ (0 ≤ a2.toInt ∧ a2.toInt < (eA g0 233 0).toInt ∧ 0 ≤ a3.toInt ∧ a3.toInt < (eA g0 233 0).toInt) ∧ (eA g0 233 1).toInt < 8) ∧ i = 46 + 6 * (eA g0 233 1).toInt + 5 then a6.toInt else (eA g0 233 (i)).toInt))) := by
  have hF0 : Fr F_X11_load_231 A_X11_load_231 g0 g0 := Fr.rf
  refine Ev.mk rfl rfl ⟨Nat.le_of_ble_eq_true rfl, Or.inr (q_rc hI0.1 kx_231 rfl)⟩ ?_
  show At _ none _ _ (0, [(0, .ref 231), (1, .int a1), (2, .int a2), (3, .int a3), (4, .int a4), (5, .int a5), (6, .int a6)], [], (_, _)) _
  refine At.enter rfl ?_
  refine r_aload_n rfl ?_
  refine r_iconst 0 rfl ?_
  refine q_putI (Sh.int hI0.1 kx_231 rfl) rfl ?_
  have hI281 := HI.wI0 hI0 kx_231 rfl (p := 231) (b := 0) (v := 0) rfl
  have hF282 := Fr.wI (p := 231) (b := 0) (v := 0) hF0 rfl
  refine r_iload_n rfl ?_
  refine r_iload rfl ?_
  refine r_iload rfl ?_
  refine r_iload rfl ?_
  refine q_inlS 15 rfl [.int a1, .int a4, .int a5, .int a6] [] (Nat.le_of_ble_eq_true rfl) rfl ?_
  refine Ev.mk rfl rfl ⟨Nat.le_of_ble_eq_true rfl, Or.inl rfl⟩ ?_
  show At _ none _ _ (0, [(0, .int a1), (1, .int a4), (2, .int a5), (3, .int a6)], [], (_, _)) _
  refine At.enter rfl ?_
  refine r_iload_n rfl ?_
  refine q_i2l (fun v283 hv283 => ?_)
  refine r_lconst 1 rfl ?_
  refine r_ldc2 9 rfl ?_
  refine q_inlS 9 rfl [.long v283, .long 1, .long 9] [] (Nat.le_of_ble_eq_true rfl) rfl ?_
  refine Ev.mk rfl rfl ⟨Nat.le_of_ble_eq_true rfl, Or.inl rfl⟩ ?_
  show At _ none _ _ (0, [(0, .long v283), (2, .long 1), (4, .long 9)], [], (_, _)) _
  refine At.enter rfl ?_
  refine r_lload_n rfl ?_
  refine r_lload_n rfl ?_
  refine r_lcmp _ rfl ?_
  refine r_ifs 6 rfl (fun c284 => ?_) (fun c284 => ?_)
  · have c284_ : v283.toInt < 1 := en_j_lt_t c284
    refine At.enter rfl ?_
    refine r_iconst 0 rfl ?_
    refine Ar.fall 18 rfl ?_
    refine At.enter rfl ?_
    refine q_iretz (by decide) ?_
    refine At.enter rfl ?_
    refine r_ift (by decide) ?_
    refine At.enter rfl ?_
    refine r_iconst 0 rfl ?_
    refine Ar.fall 53 rfl ?_
    refine At.enter rfl ?_
    refine q_iretz (by decide) ?_
    refine At.enter rfl ?_
    refine r_iff 18 rfl (by decide) ?_
    refine At.enter rfl ?_
    refine r_aload_n rfl ?_
    refine r_iconst (-1) rfl ?_
    refine r_callV 23 rfl [.ref 231, .int (-1)] [] (Nat.le_of_ble_eq_true rfl) rfl (T_X11_tell_231 _ hI281 (-1) (by decide)) ?_
    rintro _ _ ⟨g285, rfl, hI286, hF287, v288, rfl, hr289⟩
    refine At.sti ?_
    have hF290 := Fr.tr hF282 hF287 rfl rfl
    have zv291 : ((-1) : Int32).toInt = (-1) := rfl
    refine At.enter rfl ?_
    refine r_ireti ?_
    obtain ⟨v292, hv292⟩ : ∃ v, eA g0 233 1 = v := ⟨_, rfl⟩
    have tv292 := congrArg Int32.toInt hv292
    have wv292 := HI.t1 hI0
    rw [hv292] at wv292
    have tv292 := congrArg Int32.toInt hv292
    have x293 := HI.eqA hI286 (p := 233) (j := 1) ((((eA_c (hF287.2.1 233 (by decide))).trans (eA_c gA_sI)).trans hv292))
    obtain ⟨v294, hv294⟩ : ∃ v, eA g0 233 0 = v := ⟨_, rfl⟩
    have tv294 := congrArg Int32.toInt hv294
    have wv294 := HI.t0 hI0
    rw [hv294] at wv294
    have tv294 := congrArg Int32.toInt hv294
    have x295 := HI.eqA hI286 (p := 233) (j := 0) ((((eA_c (hF287.2.1 233 (by decide))).trans (eA_c gA_sI)).trans hv294))
    obtain ⟨v296, hv296⟩ : ∃ v, eA g0 233 4 = v := ⟨_, rfl⟩
    have wv296 := HI.t4 hI0
    rw [hv296] at wv296
    have tv296 := congrArg Int32.toInt hv296
    have x297 := HI.eqA hI286 (p := 233) (j := 4) ((((eA_c (hF287.2.1 233 (by decide))).trans (eA_c gA_sI)).trans hv296))
    obtain ⟨v298, hv298⟩ : ∃ v, eA g0 233 5 = v := ⟨_, rfl⟩
    have wv298 := HI.t5 hI0
    rw [hv298] at wv298
    have tv298 := congrArg Int32.toInt hv298
    have x299 := HI.eqA hI286 (p := 233) (j := 5) ((((eA_c (hF287.2.1 233 (by decide))).trans (eA_c gA_sI)).trans hv298))
    obtain ⟨v300, hv300⟩ : ∃ v, eA g0 233 6 = v := ⟨_, rfl⟩
    have wv300 := HI.t6 hI0
    rw [hv300] at wv300
    have tv300 := congrArg Int32.toInt hv300
    have x301 := HI.eqA hI286 (p := 233) (j := 6) ((((eA_c (hF287.2.1 233 (by decide))).trans (eA_c gA_sI)).trans hv300))
    have x302 := HI.eqA hI0 (p := 233) (j := 1) (hv292)
    have x303 := HI.eqA hI0 (p := 233) (j := 0) (hv294)
    have x304 := HI.eqA hI0 (p := 233) (j := 0) (hv294)
    have x305 := HI.eqA hI0 (p := 233) (j := 4) (hv296)
    have x306 := HI.eqA hI0 (p := 233) (j := 5) (hv298)
    have x307 := HI.eqA hI0 (p := 233) (j := 6) (hv300)
    exact ⟨_, rfl, hI286, hF290, _, rfl, by omega, ⟨⟨by omega, by omega, by omega, by omega, by omega, by omega, by omega, by omega⟩, (by intro i i0 i1; refine (eA_ti (((hF287.2.1 233 (by decide)).trans (gA_sI)))).trans ?_; (first | rfl | exact eA_ix (by omega) | omega)), (by intro i i0 i1; refine (eA_ti (((hF287.2.1 233 (by decide)).trans (gA_sI)))).trans ?_; (first | rfl | exact eA_ix (by omega) | omega)), (by have kn : ¬ ((1 ≤ a1.toInt ∧ a1.toInt ≤ 9 ∧ 0 ≤ a4.toInt ∧ a4.toInt ≤ 99 ∧ 0 ≤ a5.toInt ∧ a5.toInt ≤ 9 ∧ 0 ≤ a6.toInt ∧ a6.toInt ≤ 9999) ∧ (0 ≤ a2.toInt ∧ a2.toInt < (eA g0 233 0).toInt ∧ 0 ≤ a3.toInt ∧ a3.toInt < (eA g0 233 0).toInt) ∧ (eA g0 233 1).toInt < 8) := (by omega); intro i i0 i1; refine Eq.trans ?_ (if_neg (show ¬ (((1 ≤ a1.toInt ∧ a1.toInt ≤ 9 ∧ 0 ≤ a4.toInt ∧ a4.toInt ≤ 99 ∧ 0 ≤ a5.toInt ∧ a5.toInt ≤ 9 ∧ 0 ≤ a6.toInt ∧ a6.toInt ≤ 9999) ∧ (0 ≤ a2.toInt ∧ a2.toInt < (eA g0 233 0).toInt ∧ 0 ≤ a3.toInt ∧ a3.toInt < (eA g0 233 0).toInt) ∧ (eA g0 233 1).toInt < 8) ∧ i = 46 + 6 * (eA g0 233 1).toInt + 0) from fun z => kn z.1)).symm; refine Eq.trans ?_ (if_neg (show ¬ (((1 ≤ a1.toInt ∧ a1.toInt ≤ 9 ∧ 0 ≤ a4.toInt ∧ a4.toInt ≤ 99 ∧ 0 ≤ a5.toInt ∧ a5.toInt ≤ 9 ∧ 0 ≤ a6.toInt ∧ a6.toInt ≤ 9999) ∧ (0 ≤ a2.toInt ∧ a2.toInt < (eA g0 233 0).toInt ∧ 0 ≤ a3.toInt ∧ a3.toInt < (eA g0 233 0).toInt) ∧ (eA g0 233 1).toInt < 8) ∧ i = 46 + 6 * (eA g0 233 1).toInt + 1) from fun z => kn z.1)).symm; refine Eq.trans ?_ (if_neg (show ¬ (((1 ≤ a1.toInt ∧ a1.toInt ≤ 9 ∧ 0 ≤ a4.toInt ∧ a4.toInt ≤ 99 ∧ 0 ≤ a5.toInt ∧ a5.toInt ≤ 9 ∧ 0 ≤ a6.toInt ∧ a6.toInt ≤ 9999) ∧ (0 ≤ a2.toInt ∧ a2.toInt < (eA g0 233 0).toInt ∧ 0 ≤ a3.toInt ∧ a3.toInt < (eA g0 233 0).toInt) ∧ (eA g0 233 1).toInt < 8) ∧ i = 46 + 6 * (eA g0 233 1).toInt + 2) from fun z => kn z.1)).symm; refine Eq.trans ?_ (if_neg (show ¬ (((1 ≤ a1.toInt ∧ a1.toInt ≤ 9 ∧ 0 ≤ a4.toInt ∧ a4.toInt ≤ 99 ∧ 0 ≤ a5.toInt ∧ a5.toInt ≤ 9 ∧ 0 ≤ a6.toInt ∧ a6.toInt ≤ 9999) ∧ (0 ≤ a2.toInt ∧ a2.toInt < (eA g0 233 0).toInt ∧ 0 ≤ a3.toInt ∧ a3.toInt < (eA g0 233 0).toInt) ∧ (eA g0 233 1).toInt < 8) ∧ i = 46 + 6 * (eA g0 233 1).toInt + 3) from fun z => kn z.1)).symm; refine Eq.trans ?_ (if_neg (show ¬ (((1 ≤ a1.toInt ∧ a1.toInt ≤ 9 ∧ 0 ≤ a4.toInt ∧ a4.toInt ≤ 99 ∧ 0 ≤ a5.toInt ∧ a5.toInt ≤ 9 ∧ 0 ≤ a6.toInt ∧ a6.toInt ≤ 9999) ∧ (0 ≤ a2.toInt ∧ a2.toInt < (eA g0 233 0).toInt ∧ 0 ≤ a3.toInt ∧ a3.toInt < (eA g0 233 0).toInt) ∧ (eA g0 233 1).toInt < 8) ∧ i = 46 + 6 * (eA g0 233 1).toInt + 4) from fun z => kn z.1)).symm; refine Eq.trans ?_ (if_neg (show ¬ (((1 ≤ a1.toInt ∧ a1.toInt ≤ 9 ∧ 0 ≤ a4.toInt ∧ a4.toInt ≤ 99 ∧ 0 ≤ a5.toInt ∧ a5.toInt ≤ 9 ∧ 0 ≤ a6.toInt ∧ a6.toInt ≤ 9999) ∧ (0 ≤ a2.toInt ∧ a2.toInt < (eA g0 233 0).toInt ∧ 0 ≤ a3.toInt ∧ a3.toInt < (eA g0 233 0).toInt) ∧ (eA g0 233 1).toInt < 8) ∧ i = 46 + 6 * (eA g0 233 1).toInt + 5) from fun z => kn z.1)).symm; refine (eA_ti (((hF287.2.1 233 (by decide)).trans (gA_sI)))).trans ?_; (first | rfl | exact eA_ix (by omega) | omega))⟩⟩
  · have c284_ : v283.toInt ≥ 1 := en_j_lt_f c284
    refine At.enter rfl ?_
    refine r_lload_n rfl ?_
    refine r_lload rfl ?_
    refine r_lcmp _ rfl ?_
    refine r_ifs 13 rfl (fun c308 => ?_) (fun c308 => ?_)
    · have c308_ : v283.toInt > 9 := en_j_gt_t c308
      refine At.enter rfl ?_
      refine r_iconst 0 rfl ?_
      refine Ar.fall 18 rfl ?_
      refine At.enter rfl ?_
      refine q_iretz (by decide) ?_
      refine At.enter rfl ?_
      refine r_ift (by decide) ?_
      refine At.enter rfl ?_
      refine r_iconst 0 rfl ?_
      refine Ar.fall 53 rfl ?_
      refine At.enter rfl ?_
      refine q_iretz (by decide) ?_
      refine At.enter rfl ?_
      refine r_iff 18 rfl (by decide) ?_
      refine At.enter rfl ?_
      refine r_aload_n rfl ?_
      refine r_iconst (-1) rfl ?_
      refine r_callV 23 rfl [.ref 231, .int (-1)] [] (Nat.le_of_ble_eq_true rfl) rfl (T_X11_tell_231 _ hI281 (-1) (by decide)) ?_
      rintro _ _ ⟨g309, rfl, hI310, hF311, v312, rfl, hr313⟩
      refine At.sti ?_
      have hF314 := Fr.tr hF282 hF311 rfl rfl
      have zv315 : ((-1) : Int32).toInt = (-1) := rfl
      refine At.enter rfl ?_
      refine r_ireti ?_
      obtain ⟨v316, hv316⟩ : ∃ v, eA g0 233 1 = v := ⟨_, rfl⟩
      have tv316 := congrArg Int32.toInt hv316
      have wv316 := HI.t1 hI0
      rw [hv316] at wv316
      have tv316 := congrArg Int32.toInt hv316
      have x317 := HI.eqA hI310 (p := 233) (j := 1) ((((eA_c (hF311.2.1 233 (by decide))).trans (eA_c gA_sI)).trans hv316))
      obtain ⟨v318, hv318⟩ : ∃ v, eA g0 233 0 = v := ⟨_, rfl⟩
      have tv318 := congrArg Int32.toInt hv318
      have wv318 := HI.t0 hI0
      rw [hv318] at wv318
      have tv318 := congrArg Int32.toInt hv318
      have x319 := HI.eqA hI310 (p := 233) (j := 0) ((((eA_c (hF311.2.1 233 (by decide))).trans (eA_c gA_sI)).trans hv318))
      obtain ⟨v320, hv320⟩ : ∃ v, eA g0 233 4 = v := ⟨_, rfl⟩
      have wv320 := HI.t4 hI0
      rw [hv320] at wv320
      have tv320 := congrArg Int32.toInt hv320
      have x321 := HI.eqA hI310 (p := 233) (j := 4) ((((eA_c (hF311.2.1 233 (by decide))).trans (eA_c gA_sI)).trans hv320))
      obtain ⟨v322, hv322⟩ : ∃ v, eA g0 233 5 = v := ⟨_, rfl⟩
      have wv322 := HI.t5 hI0
      rw [hv322] at wv322
      have tv322 := congrArg Int32.toInt hv322
      have x323 := HI.eqA hI310 (p := 233) (j := 5) ((((eA_c (hF311.2.1 233 (by decide))).trans (eA_c gA_sI)).trans hv322))
      obtain ⟨v324, hv324⟩ : ∃ v, eA g0 233 6 = v := ⟨_, rfl⟩
      have wv324 := HI.t6 hI0
      rw [hv324] at wv324
      have tv324 := congrArg Int32.toInt hv324
      have x325 := HI.eqA hI310 (p := 233) (j := 6) ((((eA_c (hF311.2.1 233 (by decide))).trans (eA_c gA_sI)).trans hv324))
      have x326 := HI.eqA hI0 (p := 233) (j := 1) (hv316)
      have x327 := HI.eqA hI0 (p := 233) (j := 0) (hv318)
      have x328 := HI.eqA hI0 (p := 233) (j := 0) (hv318)
      have x329 := HI.eqA hI0 (p := 233) (j := 4) (hv320)
      have x330 := HI.eqA hI0 (p := 233) (j := 5) (hv322)
      have x331 := HI.eqA hI0 (p := 233) (j := 6) (hv324)
      exact ⟨_, rfl, hI310, hF314, _, rfl, by omega, ⟨⟨by omega, by omega, by omega, by omega, by omega, by omega, by omega, by omega⟩, (by intro i i0 i1; refine (eA_ti (((hF311.2.1 233 (by decide)).trans (gA_sI)))).trans ?_; (first | rfl | exact eA_ix (by omega) | omega)), (by intro i i0 i1; refine (eA_ti (((hF311.2.1 233 (by decide)).trans (gA_sI)))).trans ?_; (first | rfl | exact eA_ix (by omega) | omega)), (by have kn : ¬ ((1 ≤ a1.toInt ∧ a1.toInt ≤ 9 ∧ 0 ≤ a4.toInt ∧ a4.toInt ≤ 99 ∧ 0 ≤ a5.toInt ∧ a5.toInt ≤ 9 ∧ 0 ≤ a6.toInt ∧ a6.toInt ≤ 9999) ∧ (0 ≤ a2.toInt ∧ a2.toInt < (eA g0 233 0).toInt ∧ 0 ≤ a3.toInt ∧ a3.toInt < (eA g0 233 0).toInt) ∧ (eA g0 233 1).toInt < 8) := (by omega); intro i i0 i1; refine Eq.trans ?_ (if_neg (show ¬ (((1 ≤ a1.toInt ∧ a1.toInt ≤ 9 ∧ 0 ≤ a4.toInt ∧ a4.toInt ≤ 99 ∧ 0 ≤ a5.toInt ∧ a5.toInt ≤ 9 ∧ 0 ≤ a6.toInt ∧ a6.toInt ≤ 9999) ∧ (0 ≤ a2.toInt ∧ a2.toInt < (eA g0 233 0).toInt ∧ 0 ≤ a3.toInt ∧ a3.toInt < (eA g0 233 0).toInt) ∧ (eA g0 233 1).toInt < 8) ∧ i = 46 + 6 * (eA g0 233 1).toInt + 0) from fun z => kn z.1)).symm; refine Eq.trans ?_ (if_neg (show ¬ (((1 ≤ a1.toInt ∧ a1.toInt ≤ 9 ∧ 0 ≤ a4.toInt ∧ a4.toInt ≤ 99 ∧ 0 ≤ a5.toInt ∧ a5.toInt ≤ 9 ∧ 0 ≤ a6.toInt ∧ a6.toInt ≤ 9999) ∧ (0 ≤ a2.toInt ∧ a2.toInt < (eA g0 233 0).toInt ∧ 0 ≤ a3.toInt ∧ a3.toInt < (eA g0 233 0).toInt) ∧ (eA g0 233 1).toInt < 8) ∧ i = 46 + 6 * (eA g0 233 1).toInt + 1) from fun z => kn z.1)).symm; refine Eq.trans ?_ (if_neg (show ¬ (((1 ≤ a1.toInt ∧ a1.toInt ≤ 9 ∧ 0 ≤ a4.toInt ∧ a4.toInt ≤ 99 ∧ 0 ≤ a5.toInt ∧ a5.toInt ≤ 9 ∧ 0 ≤ a6.toInt ∧ a6.toInt ≤ 9999) ∧ (0 ≤ a2.toInt ∧ a2.toInt < (eA g0 233 0).toInt ∧ 0 ≤ a3.toInt ∧ a3.toInt < (eA g0 233 0).toInt) ∧ (eA g0 233 1).toInt < 8) ∧ i = 46 + 6 * (eA g0 233 1).toInt + 2) from fun z => kn z.1)).symm; refine Eq.trans ?_ (if_neg (show ¬ (((1 ≤ a1.toInt ∧ a1.toInt ≤ 9 ∧ 0 ≤ a4.toInt ∧ a4.toInt ≤ 99 ∧ 0 ≤ a5.toInt ∧ a5.toInt ≤ 9 ∧ 0 ≤ a6.toInt ∧ a6.toInt ≤ 9999) ∧ (0 ≤ a2.toInt ∧ a2.toInt < (eA g0 233 0).toInt ∧ 0 ≤ a3.toInt ∧ a3.toInt < (eA g0 233 0).toInt) ∧ (eA g0 233 1).toInt < 8) ∧ i = 46 + 6 * (eA g0 233 1).toInt + 3) from fun z => kn z.1)).symm; refine Eq.trans ?_ (if_neg (show ¬ (((1 ≤ a1.toInt ∧ a1.toInt ≤ 9 ∧ 0 ≤ a4.toInt ∧ a4.toInt ≤ 99 ∧ 0 ≤ a5.toInt ∧ a5.toInt ≤ 9 ∧ 0 ≤ a6.toInt ∧ a6.toInt ≤ 9999) ∧ (0 ≤ a2.toInt ∧ a2.toInt < (eA g0 233 0).toInt ∧ 0 ≤ a3.toInt ∧ a3.toInt < (eA g0 233 0).toInt) ∧ (eA g0 233 1).toInt < 8) ∧ i = 46 + 6 * (eA g0 233 1).toInt + 4) from fun z => kn z.1)).symm; refine Eq.trans ?_ (if_neg (show ¬ (((1 ≤ a1.toInt ∧ a1.toInt ≤ 9 ∧ 0 ≤ a4.toInt ∧ a4.toInt ≤ 99 ∧ 0 ≤ a5.toInt ∧ a5.toInt ≤ 9 ∧ 0 ≤ a6.toInt ∧ a6.toInt ≤ 9999) ∧ (0 ≤ a2.toInt ∧ a2.toInt < (eA g0 233 0).toInt ∧ 0 ≤ a3.toInt ∧ a3.toInt < (eA g0 233 0).toInt) ∧ (eA g0 233 1).toInt < 8) ∧ i = 46 + 6 * (eA g0 233 1).toInt + 5) from fun z => kn z.1)).symm; refine (eA_ti (((hF311.2.1 233 (by decide)).trans (gA_sI)))).trans ?_; (first | rfl | exact eA_ix (by omega) | omega))⟩⟩
    · have c308_ : v283.toInt ≤ 9 := en_j_gt_f c308
      refine At.enter rfl ?_
      refine r_iconst 1 rfl ?_
      refine r_goto ?_
      refine At.enter rfl ?_
      refine q_iretz (by decide) ?_
      refine At.enter rfl ?_
      refine r_iff 12 rfl (by decide) ?_
      refine At.enter rfl ?_
      refine r_iload_n rfl ?_
      refine q_i2l (fun v332 hv332 => ?_)
      refine r_lconst 0 rfl ?_
      refine r_ldc2 99 rfl ?_
      refine q_inlS 21 rfl [.long v332, .long 0, .long 99] [] (Nat.le_of_ble_eq_true rfl) rfl ?_
      refine Ev.mk rfl rfl ⟨Nat.le_of_ble_eq_true rfl, Or.inl rfl⟩ ?_
      show At _ none _ _ (0, [(0, .long v332), (2, .long 0), (4, .long 99)], [], (_, _)) _
      refine At.enter rfl ?_
      refine r_lload_n rfl ?_
      refine r_lload_n rfl ?_
      refine r_lcmp _ rfl ?_
      refine r_ifs 6 rfl (fun c333 => ?_) (fun c333 => ?_)
      · have c333_ : v332.toInt < 0 := en_j_lt_t c333
        refine At.enter rfl ?_
        refine r_iconst 0 rfl ?_
        refine Ar.fall 18 rfl ?_
        refine At.enter rfl ?_
        refine q_iretz (by decide) ?_
        refine At.enter rfl ?_
        refine r_ift (by decide) ?_
        refine At.enter rfl ?_
        refine r_iconst 0 rfl ?_
        refine Ar.fall 53 rfl ?_
        refine At.enter rfl ?_
        refine q_iretz (by decide) ?_
        refine At.enter rfl ?_
        refine r_iff 18 rfl (by decide) ?_
        refine At.enter rfl ?_
        refine r_aload_n rfl ?_
        refine r_iconst (-1) rfl ?_
        refine r_callV 23 rfl [.ref 231, .int (-1)] [] (Nat.le_of_ble_eq_true rfl) rfl (T_X11_tell_231 _ hI281 (-1) (by decide)) ?_
        rintro _ _ ⟨g334, rfl, hI335, hF336, v337, rfl, hr338⟩
        refine At.sti ?_
        have hF339 := Fr.tr hF282 hF336 rfl rfl
        have zv340 : ((-1) : Int32).toInt = (-1) := rfl
        refine At.enter rfl ?_
        refine r_ireti ?_
        obtain ⟨v341, hv341⟩ : ∃ v, eA g0 233 1 = v := ⟨_, rfl⟩
        have tv341 := congrArg Int32.toInt hv341
        have wv341 := HI.t1 hI0
        rw [hv341] at wv341
        have tv341 := congrArg Int32.toInt hv341
        have x342 := HI.eqA hI335 (p := 233) (j := 1) ((((eA_c (hF336.2.1 233 (by decide))).trans (eA_c gA_sI)).trans hv341))
        obtain ⟨v343, hv343⟩ : ∃ v, eA g0 233 0 = v := ⟨_, rfl⟩
        have tv343 := congrArg Int32.toInt hv343
        have wv343 := HI.t0 hI0
        rw [hv343] at wv343
        have tv343 := congrArg Int32.toInt hv343
        have x344 := HI.eqA hI335 (p := 233) (j := 0) ((((eA_c (hF336.2.1 233 (by decide))).trans (eA_c gA_sI)).trans hv343))
        obtain ⟨v345, hv345⟩ : ∃ v, eA g0 233 4 = v := ⟨_, rfl⟩
        have wv345 := HI.t4 hI0
        rw [hv345] at wv345
        have tv345 := congrArg Int32.toInt hv345
        have x346 := HI.eqA hI335 (p := 233) (j := 4) ((((eA_c (hF336.2.1 233 (by decide))).trans (eA_c gA_sI)).trans hv345))
        obtain ⟨v347, hv347⟩ : ∃ v, eA g0 233 5 = v := ⟨_, rfl⟩
        have wv347 := HI.t5 hI0
        rw [hv347] at wv347
        have tv347 := congrArg Int32.toInt hv347
        have x348 := HI.eqA hI335 (p := 233) (j := 5) ((((eA_c (hF336.2.1 233 (by decide))).trans (eA_c gA_sI)).trans hv347))
        obtain ⟨v349, hv349⟩ : ∃ v, eA g0 233 6 = v := ⟨_, rfl⟩
        have wv349 := HI.t6 hI0
        rw [hv349] at wv349
        have tv349 := congrArg Int32.toInt hv349
        have x350 := HI.eqA hI335 (p := 233) (j := 6) ((((eA_c (hF336.2.1 233 (by decide))).trans (eA_c gA_sI)).trans hv349))
        have x351 := HI.eqA hI0 (p := 233) (j := 1) (hv341)
        have x352 := HI.eqA hI0 (p := 233) (j := 0) (hv343)
        have x353 := HI.eqA hI0 (p := 233) (j := 0) (hv343)
        have x354 := HI.eqA hI0 (p := 233) (j := 4) (hv345)
        have x355 := HI.eqA hI0 (p := 233) (j := 5) (hv347)
        have x356 := HI.eqA hI0 (p := 233) (j := 6) (hv349)
        exact ⟨_, rfl, hI335, hF339, _, rfl, by omega, ⟨⟨by omega, by omega, by omega, by omega, by omega, by omega, by omega, by omega⟩, (by intro i i0 i1; refine (eA_ti (((hF336.2.1 233 (by decide)).trans (gA_sI)))).trans ?_; (first | rfl | exact eA_ix (by omega) | omega)), (by intro i i0 i1; refine (eA_ti (((hF336.2.1 233 (by decide)).trans (gA_sI)))).trans ?_; (first | rfl | exact eA_ix (by omega) | omega)), (by have kn : ¬ ((1 ≤ a1.toInt ∧ a1.toInt ≤ 9 ∧ 0 ≤ a4.toInt ∧ a4.toInt ≤ 99 ∧ 0 ≤ a5.toInt ∧ a5.toInt ≤ 9 ∧ 0 ≤ a6.toInt ∧ a6.toInt ≤ 9999) ∧ (0 ≤ a2.toInt ∧ a2.toInt < (eA g0 233 0).toInt ∧ 0 ≤ a3.toInt ∧ a3.toInt < (eA g0 233 0).toInt) ∧ (eA g0 233 1).toInt < 8) := (by omega); intro i i0 i1; refine Eq.trans ?_ (if_neg (show ¬ (((1 ≤ a1.toInt ∧ a1.toInt ≤ 9 ∧ 0 ≤ a4.toInt ∧ a4.toInt ≤ 99 ∧ 0 ≤ a5.toInt ∧ a5.toInt ≤ 9 ∧ 0 ≤ a6.toInt ∧ a6.toInt ≤ 9999) ∧ (0 ≤ a2.toInt ∧ a2.toInt < (eA g0 233 0).toInt ∧ 0 ≤ a3.toInt ∧ a3.toInt < (eA g0 233 0).toInt) ∧ (eA g0 233 1).toInt < 8) ∧ i = 46 + 6 * (eA g0 233 1).toInt + 0) from fun z => kn z.1)).symm; refine Eq.trans ?_ (if_neg (show ¬ (((1 ≤ a1.toInt ∧ a1.toInt ≤ 9 ∧ 0 ≤ a4.toInt ∧ a4.toInt ≤ 99 ∧ 0 ≤ a5.toInt ∧ a5.toInt ≤ 9 ∧ 0 ≤ a6.toInt ∧ a6.toInt ≤ 9999) ∧ (0 ≤ a2.toInt ∧ a2.toInt < (eA g0 233 0).toInt ∧ 0 ≤ a3.toInt ∧ a3.toInt < (eA g0 233 0).toInt) ∧ (eA g0 233 1).toInt < 8) ∧ i = 46 + 6 * (eA g0 233 1).toInt + 1) from fun z => kn z.1)).symm; refine Eq.trans ?_ (if_neg (show ¬ (((1 ≤ a1.toInt ∧ a1.toInt ≤ 9 ∧ 0 ≤ a4.toInt ∧ a4.toInt ≤ 99 ∧ 0 ≤ a5.toInt ∧ a5.toInt ≤ 9 ∧ 0 ≤ a6.toInt ∧ a6.toInt ≤ 9999) ∧ (0 ≤ a2.toInt ∧ a2.toInt < (eA g0 233 0).toInt ∧ 0 ≤ a3.toInt ∧ a3.toInt < (eA g0 233 0).toInt) ∧ (eA g0 233 1).toInt < 8) ∧ i = 46 + 6 * (eA g0 233 1).toInt + 2) from fun z => kn z.1)).symm; refine Eq.trans ?_ (if_neg (show ¬ (((1 ≤ a1.toInt ∧ a1.toInt ≤ 9 ∧ 0 ≤ a4.toInt ∧ a4.toInt ≤ 99 ∧ 0 ≤ a5.toInt ∧ a5.toInt ≤ 9 ∧ 0 ≤ a6.toInt ∧ a6.toInt ≤ 9999) ∧ (0 ≤ a2.toInt ∧ a2.toInt < (eA g0 233 0).toInt ∧ 0 ≤ a3.toInt ∧ a3.toInt < (eA g0 233 0).toInt) ∧ (eA g0 233 1).toInt < 8) ∧ i = 46 + 6 * (eA g0 233 1).toInt + 3) from fun z => kn z.1)).symm; refine Eq.trans ?_ (if_neg (show ¬ (((1 ≤ a1.toInt ∧ a1.toInt ≤ 9 ∧ 0 ≤ a4.toInt ∧ a4.toInt ≤ 99 ∧ 0 ≤ a5.toInt ∧ a5.toInt ≤ 9 ∧ 0 ≤ a6.toInt ∧ a6.toInt ≤ 9999) ∧ (0 ≤ a2.toInt ∧ a2.toInt < (eA g0 233 0).toInt ∧ 0 ≤ a3.toInt ∧ a3.toInt < (eA g0 233 0).toInt) ∧ (eA g0 233 1).toInt < 8) ∧ i = 46 + 6 * (eA g0 233 1).toInt + 4) from fun z => kn z.1)).symm; refine Eq.trans ?_ (if_neg (show ¬ (((1 ≤ a1.toInt ∧ a1.toInt ≤ 9 ∧ 0 ≤ a4.toInt ∧ a4.toInt ≤ 99 ∧ 0 ≤ a5.toInt ∧ a5.toInt ≤ 9 ∧ 0 ≤ a6.toInt ∧ a6.toInt ≤ 9999) ∧ (0 ≤ a2.toInt ∧ a2.toInt < (eA g0 233 0).toInt ∧ 0 ≤ a3.toInt ∧ a3.toInt < (eA g0 233 0).toInt) ∧ (eA g0 233 1).toInt < 8) ∧ i = 46 + 6 * (eA g0 233 1).toInt + 5) from fun z => kn z.1)).symm; refine (eA_ti (((hF336.2.1 233 (by decide)).trans (gA_sI)))).trans ?_; (first | rfl | exact eA_ix (by omega) | omega))⟩⟩
      · have c333_ : v332.toInt ≥ 0 := en_j_lt_f c333
        refine At.enter rfl ?_
        refine r_lload_n rfl ?_
        refine r_lload rfl ?_
        refine r_lcmp _ rfl ?_
        refine r_ifs 13 rfl (fun c357 => ?_) (fun c357 => ?_)
        · have c357_ : v332.toInt > 99 := en_j_gt_t c357
          refine At.enter rfl ?_
          refine r_iconst 0 rfl ?_
          refine Ar.fall 18 rfl ?_
          refine At.enter rfl ?_
          refine q_iretz (by decide) ?_
          refine At.enter rfl ?_
          refine r_ift (by decide) ?_
          refine At.enter rfl ?_
          refine r_iconst 0 rfl ?_
          refine Ar.fall 53 rfl ?_
          refine At.enter rfl ?_
          refine q_iretz (by decide) ?_
          refine At.enter rfl ?_
          refine r_iff 18 rfl (by decide) ?_
          refine At.enter rfl ?_
          refine r_aload_n rfl ?_
          refine r_iconst (-1) rfl ?_
          refine r_callV 23 rfl [.ref 231, .int (-1)] [] (Nat.le_of_ble_eq_true rfl) rfl (T_X11_tell_231 _ hI281 (-1) (by decide)) ?_
          rintro _ _ ⟨g358, rfl, hI359, hF360, v361, rfl, hr362⟩
          refine At.sti ?_
          have hF363 := Fr.tr hF282 hF360 rfl rfl
          have zv364 : ((-1) : Int32).toInt = (-1) := rfl
          refine At.enter rfl ?_
          refine r_ireti ?_
          obtain ⟨v365, hv365⟩ : ∃ v, eA g0 233 1 = v := ⟨_, rfl⟩
          have tv365 := congrArg Int32.toInt hv365
          have wv365 := HI.t1 hI0
          rw [hv365] at wv365
          have tv365 := congrArg Int32.toInt hv365
          have x366 := HI.eqA hI359 (p := 233) (j := 1) ((((eA_c (hF360.2.1 233 (by decide))).trans (eA_c gA_sI)).trans hv365))
          obtain ⟨v367, hv367⟩ : ∃ v, eA g0 233 0 = v := ⟨_, rfl⟩
          have tv367 := congrArg Int32.toInt hv367
          have wv367 := HI.t0 hI0
          rw [hv367] at wv367
          have tv367 := congrArg Int32.toInt hv367
          have x368 := HI.eqA hI359 (p := 233) (j := 0) ((((eA_c (hF360.2.1 233 (by decide))).trans (eA_c gA_sI)).trans hv367))
          obtain ⟨v369, hv369⟩ : ∃ v, eA g0 233 4 = v := ⟨_, rfl⟩
          have wv369 := HI.t4 hI0
          rw [hv369] at wv369
          have tv369 := congrArg Int32.toInt hv369
          have x370 := HI.eqA hI359 (p := 233) (j := 4) ((((eA_c (hF360.2.1 233 (by decide))).trans (eA_c gA_sI)).trans hv369))
          obtain ⟨v371, hv371⟩ : ∃ v, eA g0 233 5 = v := ⟨_, rfl⟩
          have wv371 := HI.t5 hI0
          rw [hv371] at wv371
          have tv371 := congrArg Int32.toInt hv371
          have x372 := HI.eqA hI359 (p := 233) (j := 5) ((((eA_c (hF360.2.1 233 (by decide))).trans (eA_c gA_sI)).trans hv371))
          obtain ⟨v373, hv373⟩ : ∃ v, eA g0 233 6 = v := ⟨_, rfl⟩
          have wv373 := HI.t6 hI0
          rw [hv373] at wv373
          have tv373 := congrArg Int32.toInt hv373
          have x374 := HI.eqA hI359 (p := 233) (j := 6) ((((eA_c (hF360.2.1 233 (by decide))).trans (eA_c gA_sI)).trans hv373))
          have x375 := HI.eqA hI0 (p := 233) (j := 1) (hv365)
          have x376 := HI.eqA hI0 (p := 233) (j := 0) (hv367)
          have x377 := HI.eqA hI0 (p := 233) (j := 0) (hv367)
          have x378 := HI.eqA hI0 (p := 233) (j := 4) (hv369)
          have x379 := HI.eqA hI0 (p := 233) (j := 5) (hv371)
          have x380 := HI.eqA hI0 (p := 233) (j := 6) (hv373)
          exact ⟨_, rfl, hI359, hF363, _, rfl, by omega, ⟨⟨by omega, by omega, by omega, by omega, by omega, by omega, by omega, by omega⟩, (by intro i i0 i1; refine (eA_ti (((hF360.2.1 233 (by decide)).trans (gA_sI)))).trans ?_; (first | rfl | exact eA_ix (by omega) | omega)), (by intro i i0 i1; refine (eA_ti (((hF360.2.1 233 (by decide)).trans (gA_sI)))).trans ?_; (first | rfl | exact eA_ix (by omega) | omega)), (by have kn : ¬ ((1 ≤ a1.toInt ∧ a1.toInt ≤ 9 ∧ 0 ≤ a4.toInt ∧ a4.toInt ≤ 99 ∧ 0 ≤ a5.toInt ∧ a5.toInt ≤ 9 ∧ 0 ≤ a6.toInt ∧ a6.toInt ≤ 9999) ∧ (0 ≤ a2.toInt ∧ a2.toInt < (eA g0 233 0).toInt ∧ 0 ≤ a3.toInt ∧ a3.toInt < (eA g0 233 0).toInt) ∧ (eA g0 233 1).toInt < 8) := (by omega); intro i i0 i1; refine Eq.trans ?_ (if_neg (show ¬ (((1 ≤ a1.toInt ∧ a1.toInt ≤ 9 ∧ 0 ≤ a4.toInt ∧ a4.toInt ≤ 99 ∧ 0 ≤ a5.toInt ∧ a5.toInt ≤ 9 ∧ 0 ≤ a6.toInt ∧ a6.toInt ≤ 9999) ∧ (0 ≤ a2.toInt ∧ a2.toInt < (eA g0 233 0).toInt ∧ 0 ≤ a3.toInt ∧ a3.toInt < (eA g0 233 0).toInt) ∧ (eA g0 233 1).toInt < 8) ∧ i = 46 + 6 * (eA g0 233 1).toInt + 0) from fun z => kn z.1)).symm; refine Eq.trans ?_ (if_neg (show ¬ (((1 ≤ a1.toInt ∧ a1.toInt ≤ 9 ∧ 0 ≤ a4.toInt ∧ a4.toInt ≤ 99 ∧ 0 ≤ a5.toInt ∧ a5.toInt ≤ 9 ∧ 0 ≤ a6.toInt ∧ a6.toInt ≤ 9999) ∧ (0 ≤ a2.toInt ∧ a2.toInt < (eA g0 233 0).toInt ∧ 0 ≤ a3.toInt ∧ a3.toInt < (eA g0 233 0).toInt) ∧ (eA g0 233 1).toInt < 8) ∧ i = 46 + 6 * (eA g0 233 1).toInt + 1) from fun z => kn z.1)).symm; refine Eq.trans ?_ (if_neg (show ¬ (((1 ≤ a1.toInt ∧ a1.toInt ≤ 9 ∧ 0 ≤ a4.toInt ∧ a4.toInt ≤ 99 ∧ 0 ≤ a5.toInt ∧ a5.toInt ≤ 9 ∧ 0 ≤ a6.toInt ∧ a6.toInt ≤ 9999) ∧ (0 ≤ a2.toInt ∧ a2.toInt < (eA g0 233 0).toInt ∧ 0 ≤ a3.toInt ∧ a3.toInt < (eA g0 233 0).toInt) ∧ (eA g0 233 1).toInt < 8) ∧ i = 46 + 6 * (eA g0 233 1).toInt + 2) from fun z => kn z.1)).symm; refine Eq.trans ?_ (if_neg (show ¬ (((1 ≤ a1.toInt ∧ a1.toInt ≤ 9 ∧ 0 ≤ a4.toInt ∧ a4.toInt ≤ 99 ∧ 0 ≤ a5.toInt ∧ a5.toInt ≤ 9 ∧ 0 ≤ a6.toInt ∧ a6.toInt ≤ 9999) ∧ (0 ≤ a2.toInt ∧ a2.toInt < (eA g0 233 0).toInt ∧ 0 ≤ a3.toInt ∧ a3.toInt < (eA g0 233 0).toInt) ∧ (eA g0 233 1).toInt < 8) ∧ i = 46 + 6 * (eA g0 233 1).toInt + 3) from fun z => kn z.1)).symm; refine Eq.trans ?_ (if_neg (show ¬ (((1 ≤ a1.toInt ∧ a1.toInt ≤ 9 ∧ 0 ≤ a4.toInt ∧ a4.toInt ≤ 99 ∧ 0 ≤ a5.toInt ∧ a5.toInt ≤ 9 ∧ 0 ≤ a6.toInt ∧ a6.toInt ≤ 9999) ∧ (0 ≤ a2.toInt ∧ a2.toInt < (eA g0 233 0).toInt ∧ 0 ≤ a3.toInt ∧ a3.toInt < (eA g0 233 0).toInt) ∧ (eA g0 233 1).toInt < 8) ∧ i = 46 + 6 * (eA g0 233 1).toInt + 4) from fun z => kn z.1)).symm; refine Eq.trans ?_ (if_neg (show ¬ (((1 ≤ a1.toInt ∧ a1.toInt ≤ 9 ∧ 0 ≤ a4.toInt ∧ a4.toInt ≤ 99 ∧ 0 ≤ a5.toInt ∧ a5.toInt ≤ 9 ∧ 0 ≤ a6.toInt ∧ a6.toInt ≤ 9999) ∧ (0 ≤ a2.toInt ∧ a2.toInt < (eA g0 233 0).toInt ∧ 0 ≤ a3.toInt ∧ a3.toInt < (eA g0 233 0).toInt) ∧ (eA g0 233 1).toInt < 8) ∧ i = 46 + 6 * (eA g0 233 1).toInt + 5) from fun z => kn z.1)).symm; refine (eA_ti (((hF360.2.1 233 (by decide)).trans (gA_sI)))).trans ?_; (first | rfl | exact eA_ix (by omega) | omega))⟩⟩
        · have c357_ : v332.toInt ≤ 99 := en_j_gt_f c357
          refine At.enter rfl ?_
          refine r_iconst 1 rfl ?_
          refine r_goto ?_
          refine At.enter rfl ?_
          refine q_iretz (by decide) ?_
          refine At.enter rfl ?_
          refine r_iff 24 rfl (by decide) ?_
          refine At.enter rfl ?_
          refine r_iload_n rfl ?_
          refine q_i2l (fun v381 hv381 => ?_)
          refine r_lconst 0 rfl ?_
          refine r_ldc2 9 rfl ?_
          refine q_inlS 33 rfl [.long v381, .long 0, .long 9] [] (Nat.le_of_ble_eq_true rfl) rfl ?_
          refine Ev.mk rfl rfl ⟨Nat.le_of_ble_eq_true rfl, Or.inl rfl⟩ ?_
          show At _ none _ _ (0, [(0, .long v381), (2, .long 0), (4, .long 9)], [], (_, _)) _
          refine At.enter rfl ?_
          refine r_lload_n rfl ?_
          refine r_lload_n rfl ?_
          refine r_lcmp _ rfl ?_
          refine r_ifs 6 rfl (fun c382 => ?_) (fun c382 => ?_)
          · have c382_ : v381.toInt < 0 := en_j_lt_t c382
            refine At.enter rfl ?_
            refine r_iconst 0 rfl ?_
            refine Ar.fall 18 rfl ?_
            refine At.enter rfl ?_
            refine q_iretz (by decide) ?_
            refine At.enter rfl ?_
            refine r_ift (by decide) ?_
            refine At.enter rfl ?_
            refine r_iconst 0 rfl ?_
            refine Ar.fall 53 rfl ?_
            refine At.enter rfl ?_
            refine q_iretz (by decide) ?_
            refine At.enter rfl ?_
            refine r_iff 18 rfl (by decide) ?_
            refine At.enter rfl ?_
            refine r_aload_n rfl ?_
            refine r_iconst (-1) rfl ?_
            refine r_callV 23 rfl [.ref 231, .int (-1)] [] (Nat.le_of_ble_eq_true rfl) rfl (T_X11_tell_231 _ hI281 (-1) (by decide)) ?_
            rintro _ _ ⟨g383, rfl, hI384, hF385, v386, rfl, hr387⟩
            refine At.sti ?_
            have hF388 := Fr.tr hF282 hF385 rfl rfl
            have zv389 : ((-1) : Int32).toInt = (-1) := rfl
            refine At.enter rfl ?_
            refine r_ireti ?_
            obtain ⟨v390, hv390⟩ : ∃ v, eA g0 233 1 = v := ⟨_, rfl⟩
            have tv390 := congrArg Int32.toInt hv390
            have wv390 := HI.t1 hI0
            rw [hv390] at wv390
            have tv390 := congrArg Int32.toInt hv390
            have x391 := HI.eqA hI384 (p := 233) (j := 1) ((((eA_c (hF385.2.1 233 (by decide))).trans (eA_c gA_sI)).trans hv390))
            obtain ⟨v392, hv392⟩ : ∃ v, eA g0 233 0 = v := ⟨_, rfl⟩
            have tv392 := congrArg Int32.toInt hv392
            have wv392 := HI.t0 hI0
            rw [hv392] at wv392
            have tv392 := congrArg Int32.toInt hv392
            have x393 := HI.eqA hI384 (p := 233) (j := 0) ((((eA_c (hF385.2.1 233 (by decide))).trans (eA_c gA_sI)).trans hv392))
            obtain ⟨v394, hv394⟩ : ∃ v, eA g0 233 4 = v := ⟨_, rfl⟩
            have wv394 := HI.t4 hI0
            rw [hv394] at wv394
            have tv394 := congrArg Int32.toInt hv394
            have x395 := HI.eqA hI384 (p := 233) (j := 4) ((((eA_c (hF385.2.1 233 (by decide))).trans (eA_c gA_sI)).trans hv394))
            obtain ⟨v396, hv396⟩ : ∃ v, eA g0 233 5 = v := ⟨_, rfl⟩
            have wv396 := HI.t5 hI0
            rw [hv396] at wv396
            have tv396 := congrArg Int32.toInt hv396
            have x397 := HI.eqA hI384 (p := 233) (j := 5) ((((eA_c (hF385.2.1 233 (by decide))).trans (eA_c gA_sI)).trans hv396))
            obtain ⟨v398, hv398⟩ : ∃ v, eA g0 233 6 = v := ⟨_, rfl⟩
            have wv398 := HI.t6 hI0
            rw [hv398] at wv398
            have tv398 := congrArg Int32.toInt hv398
            have x399 := HI.eqA hI384 (p := 233) (j := 6) ((((eA_c (hF385.2.1 233 (by decide))).trans (eA_c gA_sI)).trans hv398))
            have x400 := HI.eqA hI0 (p := 233) (j := 1) (hv390)
            have x401 := HI.eqA hI0 (p := 233) (j := 0) (hv392)
            have x402 := HI.eqA hI0 (p := 233) (j := 0) (hv392)
            have x403 := HI.eqA hI0 (p := 233) (j := 4) (hv394)
            have x404 := HI.eqA hI0 (p := 233) (j := 5) (hv396)
            have x405 := HI.eqA hI0 (p := 233) (j := 6) (hv398)
            exact ⟨_, rfl, hI384, hF388, _, rfl, by omega, ⟨⟨by omega, by omega, by omega, by omega, by omega, by omega, by omega, by omega⟩, (by intro i i0 i1; refine (eA_ti (((hF385.2.1 233 (by decide)).trans (gA_sI)))).trans ?_; (first | rfl | exact eA_ix (by omega) | omega)), (by intro i i0 i1; refine (eA_ti (((hF385.2.1 233 (by decide)).trans (gA_sI)))).trans ?_; (first | rfl | exact eA_ix (by omega) | omega)), (by have kn : ¬ ((1 ≤ a1.toInt ∧ a1.toInt ≤ 9 ∧ 0 ≤ a4.toInt ∧ a4.toInt ≤ 99 ∧ 0 ≤ a5.toInt ∧ a5.toInt ≤ 9 ∧ 0 ≤ a6.toInt ∧ a6.toInt ≤ 9999) ∧ (0 ≤ a2.toInt ∧ a2.toInt < (eA g0 233 0).toInt ∧ 0 ≤ a3.toInt ∧ a3.toInt < (eA g0 233 0).toInt) ∧ (eA g0 233 1).toInt < 8) := (by omega); intro i i0 i1; refine Eq.trans ?_ (if_neg (show ¬ (((1 ≤ a1.toInt ∧ a1.toInt ≤ 9 ∧ 0 ≤ a4.toInt ∧ a4.toInt ≤ 99 ∧ 0 ≤ a5.toInt ∧ a5.toInt ≤ 9 ∧ 0 ≤ a6.toInt ∧ a6.toInt ≤ 9999) ∧ (0 ≤ a2.toInt ∧ a2.toInt < (eA g0 233 0).toInt ∧ 0 ≤ a3.toInt ∧ a3.toInt < (eA g0 233 0).toInt) ∧ (eA g0 233 1).toInt < 8) ∧ i = 46 + 6 * (eA g0 233 1).toInt + 0) from fun z => kn z.1)).symm; refine Eq.trans ?_ (if_neg (show ¬ (((1 ≤ a1.toInt ∧ a1.toInt ≤ 9 ∧ 0 ≤ a4.toInt ∧ a4.toInt ≤ 99 ∧ 0 ≤ a5.toInt ∧ a5.toInt ≤ 9 ∧ 0 ≤ a6.toInt ∧ a6.toInt ≤ 9999) ∧ (0 ≤ a2.toInt ∧ a2.toInt < (eA g0 233 0).toInt ∧ 0 ≤ a3.toInt ∧ a3.toInt < (eA g0 233 0).toInt) ∧ (eA g0 233 1).toInt < 8) ∧ i = 46 + 6 * (eA g0 233 1).toInt + 1) from fun z => kn z.1)).symm; refine Eq.trans ?_ (if_neg (show ¬ (((1 ≤ a1.toInt ∧ a1.toInt ≤ 9 ∧ 0 ≤ a4.toInt ∧ a4.toInt ≤ 99 ∧ 0 ≤ a5.toInt ∧ a5.toInt ≤ 9 ∧ 0 ≤ a6.toInt ∧ a6.toInt ≤ 9999) ∧ (0 ≤ a2.toInt ∧ a2.toInt < (eA g0 233 0).toInt ∧ 0 ≤ a3.toInt ∧ a3.toInt < (eA g0 233 0).toInt) ∧ (eA g0 233 1).toInt < 8) ∧ i = 46 + 6 * (eA g0 233 1).toInt + 2) from fun z => kn z.1)).symm; refine Eq.trans ?_ (if_neg (show ¬ (((1 ≤ a1.toInt ∧ a1.toInt ≤ 9 ∧ 0 ≤ a4.toInt ∧ a4.toInt ≤ 99 ∧ 0 ≤ a5.toInt ∧ a5.toInt ≤ 9 ∧ 0 ≤ a6.toInt ∧ a6.toInt ≤ 9999) ∧ (0 ≤ a2.toInt ∧ a2.toInt < (eA g0 233 0).toInt ∧ 0 ≤ a3.toInt ∧ a3.toInt < (eA g0 233 0).toInt) ∧ (eA g0 233 1).toInt < 8) ∧ i = 46 + 6 * (eA g0 233 1).toInt + 3) from fun z => kn z.1)).symm; refine Eq.trans ?_ (if_neg (show ¬ (((1 ≤ a1.toInt ∧ a1.toInt ≤ 9 ∧ 0 ≤ a4.toInt ∧ a4.toInt ≤ 99 ∧ 0 ≤ a5.toInt ∧ a5.toInt ≤ 9 ∧ 0 ≤ a6.toInt ∧ a6.toInt ≤ 9999) ∧ (0 ≤ a2.toInt ∧ a2.toInt < (eA g0 233 0).toInt ∧ 0 ≤ a3.toInt ∧ a3.toInt < (eA g0 233 0).toInt) ∧ (eA g0 233 1).toInt < 8) ∧ i = 46 + 6 * (eA g0 233 1).toInt + 4) from fun z => kn z.1)).symm; refine Eq.trans ?_ (if_neg (show ¬ (((1 ≤ a1.toInt ∧ a1.toInt ≤ 9 ∧ 0 ≤ a4.toInt ∧ a4.toInt ≤ 99 ∧ 0 ≤ a5.toInt ∧ a5.toInt ≤ 9 ∧ 0 ≤ a6.toInt ∧ a6.toInt ≤ 9999) ∧ (0 ≤ a2.toInt ∧ a2.toInt < (eA g0 233 0).toInt ∧ 0 ≤ a3.toInt ∧ a3.toInt < (eA g0 233 0).toInt) ∧ (eA g0 233 1).toInt < 8) ∧ i = 46 + 6 * (eA g0 233 1).toInt + 5) from fun z => kn z.1)).symm; refine (eA_ti (((hF385.2.1 233 (by decide)).trans (gA_sI)))).trans ?_; (first | rfl | exact eA_ix (by omega) | omega))⟩⟩
          · have c382_ : v381.toInt ≥ 0 := en_j_lt_f c382
            refine At.enter rfl ?_
            refine r_lload_n rfl ?_
            refine r_lload rfl ?_
            refine r_lcmp _ rfl ?_
            refine r_ifs 13 rfl (fun c406 => ?_) (fun c406 => ?_)
            · have c406_ : v381.toInt > 9 := en_j_gt_t c406
              refine At.enter rfl ?_
              refine r_iconst 0 rfl ?_
              refine Ar.fall 18 rfl ?_
              refine At.enter rfl ?_
              refine q_iretz (by decide) ?_
              refine At.enter rfl ?_
              refine r_ift (by decide) ?_
              refine At.enter rfl ?_
              refine r_iconst 0 rfl ?_
              refine Ar.fall 53 rfl ?_
              refine At.enter rfl ?_
              refine q_iretz (by decide) ?_
              refine At.enter rfl ?_
              refine r_iff 18 rfl (by decide) ?_
              refine At.enter rfl ?_
              refine r_aload_n rfl ?_
              refine r_iconst (-1) rfl ?_
              refine r_callV 23 rfl [.ref 231, .int (-1)] [] (Nat.le_of_ble_eq_true rfl) rfl (T_X11_tell_231 _ hI281 (-1) (by decide)) ?_
              rintro _ _ ⟨g407, rfl, hI408, hF409, v410, rfl, hr411⟩
              refine At.sti ?_
              have hF412 := Fr.tr hF282 hF409 rfl rfl
              have zv413 : ((-1) : Int32).toInt = (-1) := rfl
              refine At.enter rfl ?_
              refine r_ireti ?_
              obtain ⟨v414, hv414⟩ : ∃ v, eA g0 233 1 = v := ⟨_, rfl⟩
              have tv414 := congrArg Int32.toInt hv414
              have wv414 := HI.t1 hI0
              rw [hv414] at wv414
              have tv414 := congrArg Int32.toInt hv414
              have x415 := HI.eqA hI408 (p := 233) (j := 1) ((((eA_c (hF409.2.1 233 (by decide))).trans (eA_c gA_sI)).trans hv414))
              obtain ⟨v416, hv416⟩ : ∃ v, eA g0 233 0 = v := ⟨_, rfl⟩
              have tv416 := congrArg Int32.toInt hv416
              have wv416 := HI.t0 hI0
              rw [hv416] at wv416
              have tv416 := congrArg Int32.toInt hv416
              have x417 := HI.eqA hI408 (p := 233) (j := 0) ((((eA_c (hF409.2.1 233 (by decide))).trans (eA_c gA_sI)).trans hv416))
              obtain ⟨v418, hv418⟩ : ∃ v, eA g0 233 4 = v := ⟨_, rfl⟩
              have wv418 := HI.t4 hI0
              rw [hv418] at wv418
              have tv418 := congrArg Int32.toInt hv418
              have x419 := HI.eqA hI408 (p := 233) (j := 4) ((((eA_c (hF409.2.1 233 (by decide))).trans (eA_c gA_sI)).trans hv418))
              obtain ⟨v420, hv420⟩ : ∃ v, eA g0 233 5 = v := ⟨_, rfl⟩
              have wv420 := HI.t5 hI0
              rw [hv420] at wv420
              have tv420 := congrArg Int32.toInt hv420
              have x421 := HI.eqA hI408 (p := 233) (j := 5) ((((eA_c (hF409.2.1 233 (by decide))).trans (eA_c gA_sI)).trans hv420))
              obtain ⟨v422, hv422⟩ : ∃ v, eA g0 233 6 = v := ⟨_, rfl⟩
              have wv422 := HI.t6 hI0
              rw [hv422] at wv422
              have tv422 := congrArg Int32.toInt hv422
              have x423 := HI.eqA hI408 (p := 233) (j := 6) ((((eA_c (hF409.2.1 233 (by decide))).trans (eA_c gA_sI)).trans hv422))
              have x424 := HI.eqA hI0 (p := 233) (j := 1) (hv414)
              have x425 := HI.eqA hI0 (p := 233) (j := 0) (hv416)
              have x426 := HI.eqA hI0 (p := 233) (j := 0) (hv416)
              have x427 := HI.eqA hI0 (p := 233) (j := 4) (hv418)
              have x428 := HI.eqA hI0 (p := 233) (j := 5) (hv420)
              have x429 := HI.eqA hI0 (p := 233) (j := 6) (hv422)
              exact ⟨_, rfl, hI408, hF412, _, rfl, by omega, ⟨⟨by omega, by omega, by omega, by omega, by omega, by omega, by omega, by omega⟩, (by intro i i0 i1; refine (eA_ti (((hF409.2.1 233 (by decide)).trans (gA_sI)))).trans ?_; (first | rfl | exact eA_ix (by omega) | omega)), (by intro i i0 i1; refine (eA_ti (((hF409.2.1 233 (by decide)).trans (gA_sI)))).trans ?_; (first | rfl | exact eA_ix (by omega) | omega)), (by have kn : ¬ ((1 ≤ a1.toInt ∧ a1.toInt ≤ 9 ∧ 0 ≤ a4.toInt ∧ a4.toInt ≤ 99 ∧ 0 ≤ a5.toInt ∧ a5.toInt ≤ 9 ∧ 0 ≤ a6.toInt ∧ a6.toInt ≤ 9999) ∧ (0 ≤ a2.toInt ∧ a2.toInt < (eA g0 233 0).toInt ∧ 0 ≤ a3.toInt ∧ a3.toInt < (eA g0 233 0).toInt) ∧ (eA g0 233 1).toInt < 8) := (by omega); intro i i0 i1; refine Eq.trans ?_ (if_neg (show ¬ (((1 ≤ a1.toInt ∧ a1.toInt ≤ 9 ∧ 0 ≤ a4.toInt ∧ a4.toInt ≤ 99 ∧ 0 ≤ a5.toInt ∧ a5.toInt ≤ 9 ∧ 0 ≤ a6.toInt ∧ a6.toInt ≤ 9999) ∧ (0 ≤ a2.toInt ∧ a2.toInt < (eA g0 233 0).toInt ∧ 0 ≤ a3.toInt ∧ a3.toInt < (eA g0 233 0).toInt) ∧ (eA g0 233 1).toInt < 8) ∧ i = 46 + 6 * (eA g0 233 1).toInt + 0) from fun z => kn z.1)).symm; refine Eq.trans ?_ (if_neg (show ¬ (((1 ≤ a1.toInt ∧ a1.toInt ≤ 9 ∧ 0 ≤ a4.toInt ∧ a4.toInt ≤ 99 ∧ 0 ≤ a5.toInt ∧ a5.toInt ≤ 9 ∧ 0 ≤ a6.toInt ∧ a6.toInt ≤ 9999) ∧ (0 ≤ a2.toInt ∧ a2.toInt < (eA g0 233 0).toInt ∧ 0 ≤ a3.toInt ∧ a3.toInt < (eA g0 233 0).toInt) ∧ (eA g0 233 1).toInt < 8) ∧ i = 46 + 6 * (eA g0 233 1).toInt + 1) from fun z => kn z.1)).symm; refine Eq.trans ?_ (if_neg (show ¬ (((1 ≤ a1.toInt ∧ a1.toInt ≤ 9 ∧ 0 ≤ a4.toInt ∧ a4.toInt ≤ 99 ∧ 0 ≤ a5.toInt ∧ a5.toInt ≤ 9 ∧ 0 ≤ a6.toInt ∧ a6.toInt ≤ 9999) ∧ (0 ≤ a2.toInt ∧ a2.toInt < (eA g0 233 0).toInt ∧ 0 ≤ a3.toInt ∧ a3.toInt < (eA g0 233 0).toInt) ∧ (eA g0 233 1).toInt < 8) ∧ i = 46 + 6 * (eA g0 233 1).toInt + 2) from fun z => kn z.1)).symm; refine Eq.trans ?_ (if_neg (show ¬ (((1 ≤ a1.toInt ∧ a1.toInt ≤ 9 ∧ 0 ≤ a4.toInt ∧ a4.toInt ≤ 99 ∧ 0 ≤ a5.toInt ∧ a5.toInt ≤ 9 ∧ 0 ≤ a6.toInt ∧ a6.toInt ≤ 9999) ∧ (0 ≤ a2.toInt ∧ a2.toInt < (eA g0 233 0).toInt ∧ 0 ≤ a3.toInt ∧ a3.toInt < (eA g0 233 0).toInt) ∧ (eA g0 233 1).toInt < 8) ∧ i = 46 + 6 * (eA g0 233 1).toInt + 3) from fun z => kn z.1)).symm; refine Eq.trans ?_ (if_neg (show ¬ (((1 ≤ a1.toInt ∧ a1.toInt ≤ 9 ∧ 0 ≤ a4.toInt ∧ a4.toInt ≤ 99 ∧ 0 ≤ a5.toInt ∧ a5.toInt ≤ 9 ∧ 0 ≤ a6.toInt ∧ a6.toInt ≤ 9999) ∧ (0 ≤ a2.toInt ∧ a2.toInt < (eA g0 233 0).toInt ∧ 0 ≤ a3.toInt ∧ a3.toInt < (eA g0 233 0).toInt) ∧ (eA g0 233 1).toInt < 8) ∧ i = 46 + 6 * (eA g0 233 1).toInt + 4) from fun z => kn z.1)).symm; refine Eq.trans ?_ (if_neg (show ¬ (((1 ≤ a1.toInt ∧ a1.toInt ≤ 9 ∧ 0 ≤ a4.toInt ∧ a4.toInt ≤ 99 ∧ 0 ≤ a5.toInt ∧ a5.toInt ≤ 9 ∧ 0 ≤ a6.toInt ∧ a6.toInt ≤ 9999) ∧ (0 ≤ a2.toInt ∧ a2.toInt < (eA g0 233 0).toInt ∧ 0 ≤ a3.toInt ∧ a3.toInt < (eA g0 233 0).toInt) ∧ (eA g0 233 1).toInt < 8) ∧ i = 46 + 6 * (eA g0 233 1).toInt + 5) from fun z => kn z.1)).symm; refine (eA_ti (((hF409.2.1 233 (by decide)).trans (gA_sI)))).trans ?_; (first | rfl | exact eA_ix (by omega) | omega))⟩⟩
            · have c406_ : v381.toInt ≤ 9 := en_j_gt_f c406
              refine At.enter rfl ?_
              refine r_iconst 1 rfl ?_
              refine r_goto ?_
              refine At.enter rfl ?_
              refine q_iretz (by decide) ?_
              refine At.enter rfl ?_
              refine r_iff 36 rfl (by decide) ?_
              refine At.enter rfl ?_
              refine r_iload_n rfl ?_
              refine q_i2l (fun v430 hv430 => ?_)
              refine r_lconst 0 rfl ?_
              refine r_ldc2 9999 rfl ?_
              refine q_inlS 45 rfl [.long v430, .long 0, .long 9999] [] (Nat.le_of_ble_eq_true rfl) rfl ?_
              refine Ev.mk rfl rfl ⟨Nat.le_of_ble_eq_true rfl, Or.inl rfl⟩ ?_
              show At _ none _ _ (0, [(0, .long v430), (2, .long 0), (4, .long 9999)], [], (_, _)) _
              refine At.enter rfl ?_
              refine r_lload_n rfl ?_
              refine r_lload_n rfl ?_
              refine r_lcmp _ rfl ?_
              refine r_ifs 6 rfl (fun c431 => ?_) (fun c431 => ?_)
              · have c431_ : v430.toInt < 0 := en_j_lt_t c431
                refine At.enter rfl ?_
                refine r_iconst 0 rfl ?_
                refine Ar.fall 18 rfl ?_
                refine At.enter rfl ?_
                refine q_iretz (by decide) ?_
                refine At.enter rfl ?_
                refine r_ift (by decide) ?_
                refine At.enter rfl ?_
                refine r_iconst 0 rfl ?_
                refine Ar.fall 53 rfl ?_
                refine At.enter rfl ?_
                refine q_iretz (by decide) ?_
                refine At.enter rfl ?_
                refine r_iff 18 rfl (by decide) ?_
                refine At.enter rfl ?_
                refine r_aload_n rfl ?_
                refine r_iconst (-1) rfl ?_
                refine r_callV 23 rfl [.ref 231, .int (-1)] [] (Nat.le_of_ble_eq_true rfl) rfl (T_X11_tell_231 _ hI281 (-1) (by decide)) ?_
                rintro _ _ ⟨g432, rfl, hI433, hF434, v435, rfl, hr436⟩
                refine At.sti ?_
                have hF437 := Fr.tr hF282 hF434 rfl rfl
                have zv438 : ((-1) : Int32).toInt = (-1) := rfl
                refine At.enter rfl ?_
                refine r_ireti ?_
                obtain ⟨v439, hv439⟩ : ∃ v, eA g0 233 1 = v := ⟨_, rfl⟩
                have tv439 := congrArg Int32.toInt hv439
                have wv439 := HI.t1 hI0
                rw [hv439] at wv439
                have tv439 := congrArg Int32.toInt hv439
                have x440 := HI.eqA hI433 (p := 233) (j := 1) ((((eA_c (hF434.2.1 233 (by decide))).trans (eA_c gA_sI)).trans hv439))
                obtain ⟨v441, hv441⟩ : ∃ v, eA g0 233 0 = v := ⟨_, rfl⟩
                have tv441 := congrArg Int32.toInt hv441
                have wv441 := HI.t0 hI0
                rw [hv441] at wv441
                have tv441 := congrArg Int32.toInt hv441
                have x442 := HI.eqA hI433 (p := 233) (j := 0) ((((eA_c (hF434.2.1 233 (by decide))).trans (eA_c gA_sI)).trans hv441))
                obtain ⟨v443, hv443⟩ : ∃ v, eA g0 233 4 = v := ⟨_, rfl⟩
                have wv443 := HI.t4 hI0
                rw [hv443] at wv443
                have tv443 := congrArg Int32.toInt hv443
                have x444 := HI.eqA hI433 (p := 233) (j := 4) ((((eA_c (hF434.2.1 233 (by decide))).trans (eA_c gA_sI)).trans hv443))
                obtain ⟨v445, hv445⟩ : ∃ v, eA g0 233 5 = v := ⟨_, rfl⟩
                have wv445 := HI.t5 hI0
                rw [hv445] at wv445
                have tv445 := congrArg Int32.toInt hv445
                have x446 := HI.eqA hI433 (p := 233) (j := 5) ((((eA_c (hF434.2.1 233 (by decide))).trans (eA_c gA_sI)).trans hv445))
                obtain ⟨v447, hv447⟩ : ∃ v, eA g0 233 6 = v := ⟨_, rfl⟩
                have wv447 := HI.t6 hI0
                rw [hv447] at wv447
                have tv447 := congrArg Int32.toInt hv447
                have x448 := HI.eqA hI433 (p := 233) (j := 6) ((((eA_c (hF434.2.1 233 (by decide))).trans (eA_c gA_sI)).trans hv447))
                have x449 := HI.eqA hI0 (p := 233) (j := 1) (hv439)
                have x450 := HI.eqA hI0 (p := 233) (j := 0) (hv441)
                have x451 := HI.eqA hI0 (p := 233) (j := 0) (hv441)
                have x452 := HI.eqA hI0 (p := 233) (j := 4) (hv443)
                have x453 := HI.eqA hI0 (p := 233) (j := 5) (hv445)
                have x454 := HI.eqA hI0 (p := 233) (j := 6) (hv447)
                exact ⟨_, rfl, hI433, hF437, _, rfl, by omega, ⟨⟨by omega, by omega, by omega, by omega, by omega, by omega, by omega, by omega⟩, (by intro i i0 i1; refine (eA_ti (((hF434.2.1 233 (by decide)).trans (gA_sI)))).trans ?_; (first | rfl | exact eA_ix (by omega) | omega)), (by intro i i0 i1; refine (eA_ti (((hF434.2.1 233 (by decide)).trans (gA_sI)))).trans ?_; (first | rfl | exact eA_ix (by omega) | omega)), (by have kn : ¬ ((1 ≤ a1.toInt ∧ a1.toInt ≤ 9 ∧ 0 ≤ a4.toInt ∧ a4.toInt ≤ 99 ∧ 0 ≤ a5.toInt ∧ a5.toInt ≤ 9 ∧ 0 ≤ a6.toInt ∧ a6.toInt ≤ 9999) ∧ (0 ≤ a2.toInt ∧ a2.toInt < (eA g0 233 0).toInt ∧ 0 ≤ a3.toInt ∧ a3.toInt < (eA g0 233 0).toInt) ∧ (eA g0 233 1).toInt < 8) := (by omega); intro i i0 i1; refine Eq.trans ?_ (if_neg (show ¬ (((1 ≤ a1.toInt ∧ a1.toInt ≤ 9 ∧ 0 ≤ a4.toInt ∧ a4.toInt ≤ 99 ∧ 0 ≤ a5.toInt ∧ a5.toInt ≤ 9 ∧ 0 ≤ a6.toInt ∧ a6.toInt ≤ 9999) ∧ (0 ≤ a2.toInt ∧ a2.toInt < (eA g0 233 0).toInt ∧ 0 ≤ a3.toInt ∧ a3.toInt < (eA g0 233 0).toInt) ∧ (eA g0 233 1).toInt < 8) ∧ i = 46 + 6 * (eA g0 233 1).toInt + 0) from fun z => kn z.1)).symm; refine Eq.trans ?_ (if_neg (show ¬ (((1 ≤ a1.toInt ∧ a1.toInt ≤ 9 ∧ 0 ≤ a4.toInt ∧ a4.toInt ≤ 99 ∧ 0 ≤ a5.toInt ∧ a5.toInt ≤ 9 ∧ 0 ≤ a6.toInt ∧ a6.toInt ≤ 9999) ∧ (0 ≤ a2.toInt ∧ a2.toInt < (eA g0 233 0).toInt ∧ 0 ≤ a3.toInt ∧ a3.toInt < (eA g0 233 0).toInt) ∧ (eA g0 233 1).toInt < 8) ∧ i = 46 + 6 * (eA g0 233 1).toInt + 1) from fun z => kn z.1)).symm; refine Eq.trans ?_ (if_neg (show ¬ (((1 ≤ a1.toInt ∧ a1.toInt ≤ 9 ∧ 0 ≤ a4.toInt ∧ a4.toInt ≤ 99 ∧ 0 ≤ a5.toInt ∧ a5.toInt ≤ 9 ∧ 0 ≤ a6.toInt ∧ a6.toInt ≤ 9999) ∧ (0 ≤ a2.toInt ∧ a2.toInt < (eA g0 233 0).toInt ∧ 0 ≤ a3.toInt ∧ a3.toInt < (eA g0 233 0).toInt) ∧ (eA g0 233 1).toInt < 8) ∧ i = 46 + 6 * (eA g0 233 1).toInt + 2) from fun z => kn z.1)).symm; refine Eq.trans ?_ (if_neg (show ¬ (((1 ≤ a1.toInt ∧ a1.toInt ≤ 9 ∧ 0 ≤ a4.toInt ∧ a4.toInt ≤ 99 ∧ 0 ≤ a5.toInt ∧ a5.toInt ≤ 9 ∧ 0 ≤ a6.toInt ∧ a6.toInt ≤ 9999) ∧ (0 ≤ a2.toInt ∧ a2.toInt < (eA g0 233 0).toInt ∧ 0 ≤ a3.toInt ∧ a3.toInt < (eA g0 233 0).toInt) ∧ (eA g0 233 1).toInt < 8) ∧ i = 46 + 6 * (eA g0 233 1).toInt + 3) from fun z => kn z.1)).symm; refine Eq.trans ?_ (if_neg (show ¬ (((1 ≤ a1.toInt ∧ a1.toInt ≤ 9 ∧ 0 ≤ a4.toInt ∧ a4.toInt ≤ 99 ∧ 0 ≤ a5.toInt ∧ a5.toInt ≤ 9 ∧ 0 ≤ a6.toInt ∧ a6.toInt ≤ 9999) ∧ (0 ≤ a2.toInt ∧ a2.toInt < (eA g0 233 0).toInt ∧ 0 ≤ a3.toInt ∧ a3.toInt < (eA g0 233 0).toInt) ∧ (eA g0 233 1).toInt < 8) ∧ i = 46 + 6 * (eA g0 233 1).toInt + 4) from fun z => kn z.1)).symm; refine Eq.trans ?_ (if_neg (show ¬ (((1 ≤ a1.toInt ∧ a1.toInt ≤ 9 ∧ 0 ≤ a4.toInt ∧ a4.toInt ≤ 99 ∧ 0 ≤ a5.toInt ∧ a5.toInt ≤ 9 ∧ 0 ≤ a6.toInt ∧ a6.toInt ≤ 9999) ∧ (0 ≤ a2.toInt ∧ a2.toInt < (eA g0 233 0).toInt ∧ 0 ≤ a3.toInt ∧ a3.toInt < (eA g0 233 0).toInt) ∧ (eA g0 233 1).toInt < 8) ∧ i = 46 + 6 * (eA g0 233 1).toInt + 5) from fun z => kn z.1)).symm; refine (eA_ti (((hF434.2.1 233 (by decide)).trans (gA_sI)))).trans ?_; (first | rfl | exact eA_ix (by omega) | omega))⟩⟩
              · have c431_ : v430.toInt ≥ 0 := en_j_lt_f c431
                refine At.enter rfl ?_
                refine r_lload_n rfl ?_
                refine r_lload rfl ?_
                refine r_lcmp _ rfl ?_
                refine r_ifs 13 rfl (fun c455 => ?_) (fun c455 => ?_)
                · have c455_ : v430.toInt > 9999 := en_j_gt_t c455
                  refine At.enter rfl ?_
                  refine r_iconst 0 rfl ?_
                  refine Ar.fall 18 rfl ?_
                  refine At.enter rfl ?_
                  refine q_iretz (by decide) ?_
                  refine At.enter rfl ?_
                  refine r_ift (by decide) ?_
                  refine At.enter rfl ?_
                  refine r_iconst 0 rfl ?_
                  refine Ar.fall 53 rfl ?_
                  refine At.enter rfl ?_
                  refine q_iretz (by decide) ?_
                  refine At.enter rfl ?_
                  refine r_iff 18 rfl (by decide) ?_
                  refine At.enter rfl ?_
                  refine r_aload_n rfl ?_
                  refine r_iconst (-1) rfl ?_
                  refine r_callV 23 rfl [.ref 231, .int (-1)] [] (Nat.le_of_ble_eq_true rfl) rfl (T_X11_tell_231 _ hI281 (-1) (by decide)) ?_
                  rintro _ _ ⟨g456, rfl, hI457, hF458, v459, rfl, hr460⟩
                  refine At.sti ?_
                  have hF461 := Fr.tr hF282 hF458 rfl rfl
                  have zv462 : ((-1) : Int32).toInt = (-1) := rfl
                  refine At.enter rfl ?_
                  refine r_ireti ?_
                  obtain ⟨v463, hv463⟩ : ∃ v, eA g0 233 1 = v := ⟨_, rfl⟩
                  have tv463 := congrArg Int32.toInt hv463
                  have wv463 := HI.t1 hI0
                  rw [hv463] at wv463
                  have tv463 := congrArg Int32.toInt hv463
                  have x464 := HI.eqA hI457 (p := 233) (j := 1) ((((eA_c (hF458.2.1 233 (by decide))).trans (eA_c gA_sI)).trans hv463))
                  obtain ⟨v465, hv465⟩ : ∃ v, eA g0 233 0 = v := ⟨_, rfl⟩
                  have tv465 := congrArg Int32.toInt hv465
                  have wv465 := HI.t0 hI0
                  rw [hv465] at wv465
                  have tv465 := congrArg Int32.toInt hv465
                  have x466 := HI.eqA hI457 (p := 233) (j := 0) ((((eA_c (hF458.2.1 233 (by decide))).trans (eA_c gA_sI)).trans hv465))
                  obtain ⟨v467, hv467⟩ : ∃ v, eA g0 233 4 = v := ⟨_, rfl⟩
                  have wv467 := HI.t4 hI0
                  rw [hv467] at wv467
                  have tv467 := congrArg Int32.toInt hv467
                  have x468 := HI.eqA hI457 (p := 233) (j := 4) ((((eA_c (hF458.2.1 233 (by decide))).trans (eA_c gA_sI)).trans hv467))
                  obtain ⟨v469, hv469⟩ : ∃ v, eA g0 233 5 = v := ⟨_, rfl⟩
                  have wv469 := HI.t5 hI0
                  rw [hv469] at wv469
                  have tv469 := congrArg Int32.toInt hv469
                  have x470 := HI.eqA hI457 (p := 233) (j := 5) ((((eA_c (hF458.2.1 233 (by decide))).trans (eA_c gA_sI)).trans hv469))
                  obtain ⟨v471, hv471⟩ : ∃ v, eA g0 233 6 = v := ⟨_, rfl⟩
                  have wv471 := HI.t6 hI0
                  rw [hv471] at wv471
                  have tv471 := congrArg Int32.toInt hv471
                  have x472 := HI.eqA hI457 (p := 233) (j := 6) ((((eA_c (hF458.2.1 233 (by decide))).trans (eA_c gA_sI)).trans hv471))
                  have x473 := HI.eqA hI0 (p := 233) (j := 1) (hv463)
                  have x474 := HI.eqA hI0 (p := 233) (j := 0) (hv465)
                  have x475 := HI.eqA hI0 (p := 233) (j := 0) (hv465)
                  have x476 := HI.eqA hI0 (p := 233) (j := 4) (hv467)
                  have x477 := HI.eqA hI0 (p := 233) (j := 5) (hv469)
                  have x478 := HI.eqA hI0 (p := 233) (j := 6) (hv471)
                  exact ⟨_, rfl, hI457, hF461, _, rfl, by omega, ⟨⟨by omega, by omega, by omega, by omega, by omega, by omega, by omega, by omega⟩, (by intro i i0 i1; refine (eA_ti (((hF458.2.1 233 (by decide)).trans (gA_sI)))).trans ?_; (first | rfl | exact eA_ix (by omega) | omega)), (by intro i i0 i1; refine (eA_ti (((hF458.2.1 233 (by decide)).trans (gA_sI)))).trans ?_; (first | rfl | exact eA_ix (by omega) | omega)), (by have kn : ¬ ((1 ≤ a1.toInt ∧ a1.toInt ≤ 9 ∧ 0 ≤ a4.toInt ∧ a4.toInt ≤ 99 ∧ 0 ≤ a5.toInt ∧ a5.toInt ≤ 9 ∧ 0 ≤ a6.toInt ∧ a6.toInt ≤ 9999) ∧ (0 ≤ a2.toInt ∧ a2.toInt < (eA g0 233 0).toInt ∧ 0 ≤ a3.toInt ∧ a3.toInt < (eA g0 233 0).toInt) ∧ (eA g0 233 1).toInt < 8) := (by omega); intro i i0 i1; refine Eq.trans ?_ (if_neg (show ¬ (((1 ≤ a1.toInt ∧ a1.toInt ≤ 9 ∧ 0 ≤ a4.toInt ∧ a4.toInt ≤ 99 ∧ 0 ≤ a5.toInt ∧ a5.toInt ≤ 9 ∧ 0 ≤ a6.toInt ∧ a6.toInt ≤ 9999) ∧ (0 ≤ a2.toInt ∧ a2.toInt < (eA g0 233 0).toInt ∧ 0 ≤ a3.toInt ∧ a3.toInt < (eA g0 233 0).toInt) ∧ (eA g0 233 1).toInt < 8) ∧ i = 46 + 6 * (eA g0 233 1).toInt + 0) from fun z => kn z.1)).symm; refine Eq.trans ?_ (if_neg (show ¬ (((1 ≤ a1.toInt ∧ a1.toInt ≤ 9 ∧ 0 ≤ a4.toInt ∧ a4.toInt ≤ 99 ∧ 0 ≤ a5.toInt ∧ a5.toInt ≤ 9 ∧ 0 ≤ a6.toInt ∧ a6.toInt ≤ 9999) ∧ (0 ≤ a2.toInt ∧ a2.toInt < (eA g0 233 0).toInt ∧ 0 ≤ a3.toInt ∧ a3.toInt < (eA g0 233 0).toInt) ∧ (eA g0 233 1).toInt < 8) ∧ i = 46 + 6 * (eA g0 233 1).toInt + 1) from fun z => kn z.1)).symm; refine Eq.trans ?_ (if_neg (show ¬ (((1 ≤ a1.toInt ∧ a1.toInt ≤ 9 ∧ 0 ≤ a4.toInt ∧ a4.toInt ≤ 99 ∧ 0 ≤ a5.toInt ∧ a5.toInt ≤ 9 ∧ 0 ≤ a6.toInt ∧ a6.toInt ≤ 9999) ∧ (0 ≤ a2.toInt ∧ a2.toInt < (eA g0 233 0).toInt ∧ 0 ≤ a3.toInt ∧ a3.toInt < (eA g0 233 0).toInt) ∧ (eA g0 233 1).toInt < 8) ∧ i = 46 + 6 * (eA g0 233 1).toInt + 2) from fun z => kn z.1)).symm; refine Eq.trans ?_ (if_neg (show ¬ (((1 ≤ a1.toInt ∧ a1.toInt ≤ 9 ∧ 0 ≤ a4.toInt ∧ a4.toInt ≤ 99 ∧ 0 ≤ a5.toInt ∧ a5.toInt ≤ 9 ∧ 0 ≤ a6.toInt ∧ a6.toInt ≤ 9999) ∧ (0 ≤ a2.toInt ∧ a2.toInt < (eA g0 233 0).toInt ∧ 0 ≤ a3.toInt ∧ a3.toInt < (eA g0 233 0).toInt) ∧ (eA g0 233 1).toInt < 8) ∧ i = 46 + 6 * (eA g0 233 1).toInt + 3) from fun z => kn z.1)).symm; refine Eq.trans ?_ (if_neg (show ¬ (((1 ≤ a1.toInt ∧ a1.toInt ≤ 9 ∧ 0 ≤ a4.toInt ∧ a4.toInt ≤ 99 ∧ 0 ≤ a5.toInt ∧ a5.toInt ≤ 9 ∧ 0 ≤ a6.toInt ∧ a6.toInt ≤ 9999) ∧ (0 ≤ a2.toInt ∧ a2.toInt < (eA g0 233 0).toInt ∧ 0 ≤ a3.toInt ∧ a3.toInt < (eA g0 233 0).toInt) ∧ (eA g0 233 1).toInt < 8) ∧ i = 46 + 6 * (eA g0 233 1).toInt + 4) from fun z => kn z.1)).symm; refine Eq.trans ?_ (if_neg (show ¬ (((1 ≤ a1.toInt ∧ a1.toInt ≤ 9 ∧ 0 ≤ a4.toInt ∧ a4.toInt ≤ 99 ∧ 0 ≤ a5.toInt ∧ a5.toInt ≤ 9 ∧ 0 ≤ a6.toInt ∧ a6.toInt ≤ 9999) ∧ (0 ≤ a2.toInt ∧ a2.toInt < (eA g0 233 0).toInt ∧ 0 ≤ a3.toInt ∧ a3.toInt < (eA g0 233 0).toInt) ∧ (eA g0 233 1).toInt < 8) ∧ i = 46 + 6 * (eA g0 233 1).toInt + 5) from fun z => kn z.1)).symm; refine (eA_ti (((hF458.2.1 233 (by decide)).trans (gA_sI)))).trans ?_; (first | rfl | exact eA_ix (by omega) | omega))⟩⟩
                · have c455_ : v430.toInt ≤ 9999 := en_j_gt_f c455
                  refine At.enter rfl ?_
                  refine r_iconst 1 rfl ?_
                  refine r_goto ?_
                  refine At.enter rfl ?_
                  refine q_iretz (by decide) ?_
                  refine At.enter rfl ?_
                  refine r_iff 48 rfl (by decide) ?_
                  refine At.enter rfl ?_
                  refine r_iconst 1 rfl ?_
                  refine r_goto ?_
                  refine At.enter rfl ?_
                  refine q_iretz (by decide) ?_
                  refine At.enter rfl ?_
                  refine r_ift (by decide) ?_
                  refine At.enter rfl ?_
                  refine r_aload_n rfl ?_
                  refine r_iload_n rfl ?_
                  refine q_inlV 29 rfl [.ref 231, .int a2] [] (Nat.le_of_ble_eq_true rfl) rfl ?_
                  refine Ev.mk rfl rfl ⟨Nat.le_of_ble_eq_true rfl, Or.inr (q_rc hI281.1 kx_231 rfl)⟩ ?_
                  show At _ none _ _ (0, [(0, .ref 231), (1, .int a2)], [], (_, _)) _
                  refine At.enter rfl ?_
                  refine r_iload_n rfl ?_
                  refine q_i2l (fun v479 hv479 => ?_)
                  refine r_lconst 0 rfl ?_
                  refine r_aload_n rfl ?_
                  refine q_getR (Sh.ref hI281.1 kx_231 rfl) ?_
                  refine r_iconst 0 rfl ?_
                  obtain ⟨v480, hv480⟩ : ∃ v, eA g0 233 0 = v := ⟨_, rfl⟩
                  have tv480 := congrArg Int32.toInt hv480
                  have wv480 := HI.t0 hI0
                  rw [hv480] at wv480
                  refine q_iald (Sh.arr hI281.1 ka_233) 0 rfl (by decide) v480 ((eA_c (gA_sI)).trans hv480) ?_
                  refine q_i2l (fun v481 hv481 => ?_)
                  refine r_lconst 1 rfl ?_
                  refine q_lsub (v481.toInt - 1) rfl (by omega) (fun v482 hv482 => ?_)
                  refine q_inlS 15 rfl [.long v479, .long 0, .long v482] [] (Nat.le_of_ble_eq_true rfl) rfl ?_
                  refine Ev.mk rfl rfl ⟨Nat.le_of_ble_eq_true rfl, Or.inl rfl⟩ ?_
                  show At _ none _ _ (0, [(0, .long v479), (2, .long 0), (4, .long v482)], [], (_, _)) _
                  refine At.enter rfl ?_
                  refine r_lload_n rfl ?_
                  refine r_lload_n rfl ?_
                  refine r_lcmp _ rfl ?_
                  refine r_ifs 6 rfl (fun c483 => ?_) (fun c483 => ?_)
                  · have c483_ : v479.toInt < 0 := en_j_lt_t c483
                    refine At.enter rfl ?_
                    refine r_iconst 0 rfl ?_
                    refine Ar.fall 18 rfl ?_
                    refine At.enter rfl ?_
                    refine q_iretz (by decide) ?_
                    refine At.enter rfl ?_
                    refine q_iretz (by decide) ?_
                    refine At.enter rfl ?_
                    refine r_ift (by decide) ?_
                    refine At.enter rfl ?_
                    refine r_aload_n rfl ?_
                    refine r_bipush (-2) rfl ?_
                    refine r_callV 46 rfl [.ref 231, .int (-2)] [] (Nat.le_of_ble_eq_true rfl) rfl (T_X11_tell_231 _ hI281 (-2) (by decide)) ?_
                    rintro _ _ ⟨g484, rfl, hI485, hF486, v487, rfl, hr488⟩
                    refine At.sti ?_
                    have hF489 := Fr.tr hF282 hF486 rfl rfl
                    have zv490 : ((-2) : Int32).toInt = (-2) := rfl
                    refine At.enter rfl ?_
                    refine r_ireti ?_
                    obtain ⟨v491, hv491⟩ : ∃ v, eA g0 233 1 = v := ⟨_, rfl⟩
                    have tv491 := congrArg Int32.toInt hv491
                    have wv491 := HI.t1 hI0
                    rw [hv491] at wv491
                    have tv491 := congrArg Int32.toInt hv491
                    have x492 := HI.eqA hI485 (p := 233) (j := 1) ((((eA_c (hF486.2.1 233 (by decide))).trans (eA_c gA_sI)).trans hv491))
                    have x493 := HI.eqA hI485 (p := 233) (j := 0) ((((eA_c (hF486.2.1 233 (by decide))).trans (eA_c gA_sI)).trans hv480))
                    obtain ⟨v494, hv494⟩ : ∃ v, eA g0 233 4 = v := ⟨_, rfl⟩
                    have wv494 := HI.t4 hI0
                    rw [hv494] at wv494
                    have tv494 := congrArg Int32.toInt hv494
                    have x495 := HI.eqA hI485 (p := 233) (j := 4) ((((eA_c (hF486.2.1 233 (by decide))).trans (eA_c gA_sI)).trans hv494))
                    obtain ⟨v496, hv496⟩ : ∃ v, eA g0 233 5 = v := ⟨_, rfl⟩
                    have wv496 := HI.t5 hI0
                    rw [hv496] at wv496
                    have tv496 := congrArg Int32.toInt hv496
                    have x497 := HI.eqA hI485 (p := 233) (j := 5) ((((eA_c (hF486.2.1 233 (by decide))).trans (eA_c gA_sI)).trans hv496))
                    obtain ⟨v498, hv498⟩ : ∃ v, eA g0 233 6 = v := ⟨_, rfl⟩
                    have wv498 := HI.t6 hI0
                    rw [hv498] at wv498
                    have tv498 := congrArg Int32.toInt hv498
                    have x499 := HI.eqA hI485 (p := 233) (j := 6) ((((eA_c (hF486.2.1 233 (by decide))).trans (eA_c gA_sI)).trans hv498))
                    have x500 := HI.eqA hI0 (p := 233) (j := 1) (hv491)
                    have x501 := HI.eqA hI0 (p := 233) (j := 0) (hv480)
                    have x502 := HI.eqA hI0 (p := 233) (j := 0) (hv480)
                    have x503 := HI.eqA hI0 (p := 233) (j := 4) (hv494)
                    have x504 := HI.eqA hI0 (p := 233) (j := 5) (hv496)
                    have x505 := HI.eqA hI0 (p := 233) (j := 6) (hv498)
                    exact ⟨_, rfl, hI485, hF489, _, rfl, by omega, ⟨⟨by omega, by omega, by omega, by omega, by omega, by omega, by omega, by omega⟩, (by intro i i0 i1; refine (eA_ti (((hF486.2.1 233 (by decide)).trans (gA_sI)))).trans ?_; (first | rfl | exact eA_ix (by omega) | omega)), (by intro i i0 i1; refine (eA_ti (((hF486.2.1 233 (by decide)).trans (gA_sI)))).trans ?_; (first | rfl | exact eA_ix (by omega) | omega)), (by have kn : ¬ ((1 ≤ a1.toInt ∧ a1.toInt ≤ 9 ∧ 0 ≤ a4.toInt ∧ a4.toInt ≤ 99 ∧ 0 ≤ a5.toInt ∧ a5.toInt ≤ 9 ∧ 0 ≤ a6.toInt ∧ a6.toInt ≤ 9999) ∧ (0 ≤ a2.toInt ∧ a2.toInt < (eA g0 233 0).toInt ∧ 0 ≤ a3.toInt ∧ a3.toInt < (eA g0 233 0).toInt) ∧ (eA g0 233 1).toInt < 8) := (by omega); intro i i0 i1; refine Eq.trans ?_ (if_neg (show ¬ (((1 ≤ a1.toInt ∧ a1.toInt ≤ 9 ∧ 0 ≤ a4.toInt ∧ a4.toInt ≤ 99 ∧ 0 ≤ a5.toInt ∧ a5.toInt ≤ 9 ∧ 0 ≤ a6.toInt ∧ a6.toInt ≤ 9999) ∧ (0 ≤ a2.toInt ∧ a2.toInt < (eA g0 233 0).toInt ∧ 0 ≤ a3.toInt ∧ a3.toInt < (eA g0 233 0).toInt) ∧ (eA g0 233 1).toInt < 8) ∧ i = 46 + 6 * (eA g0 233 1).toInt + 0) from fun z => kn z.1)).symm; refine Eq.trans ?_ (if_neg (show ¬ (((1 ≤ a1.toInt ∧ a1.toInt ≤ 9 ∧ 0 ≤ a4.toInt ∧ a4.toInt ≤ 99 ∧ 0 ≤ a5.toInt ∧ a5.toInt ≤ 9 ∧ 0 ≤ a6.toInt ∧ a6.toInt ≤ 9999) ∧ (0 ≤ a2.toInt ∧ a2.toInt < (eA g0 233 0).toInt ∧ 0 ≤ a3.toInt ∧ a3.toInt < (eA g0 233 0).toInt) ∧ (eA g0 233 1).toInt < 8) ∧ i = 46 + 6 * (eA g0 233 1).toInt + 1) from fun z => kn z.1)).symm; refine Eq.trans ?_ (if_neg (show ¬ (((1 ≤ a1.toInt ∧ a1.toInt ≤ 9 ∧ 0 ≤ a4.toInt ∧ a4.toInt ≤ 99 ∧ 0 ≤ a5.toInt ∧ a5.toInt ≤ 9 ∧ 0 ≤ a6.toInt ∧ a6.toInt ≤ 9999) ∧ (0 ≤ a2.toInt ∧ a2.toInt < (eA g0 233 0).toInt ∧ 0 ≤ a3.toInt ∧ a3.toInt < (eA g0 233 0).toInt) ∧ (eA g0 233 1).toInt < 8) ∧ i = 46 + 6 * (eA g0 233 1).toInt + 2) from fun z => kn z.1)).symm; refine Eq.trans ?_ (if_neg (show ¬ (((1 ≤ a1.toInt ∧ a1.toInt ≤ 9 ∧ 0 ≤ a4.toInt ∧ a4.toInt ≤ 99 ∧ 0 ≤ a5.toInt ∧ a5.toInt ≤ 9 ∧ 0 ≤ a6.toInt ∧ a6.toInt ≤ 9999) ∧ (0 ≤ a2.toInt ∧ a2.toInt < (eA g0 233 0).toInt ∧ 0 ≤ a3.toInt ∧ a3.toInt < (eA g0 233 0).toInt) ∧ (eA g0 233 1).toInt < 8) ∧ i = 46 + 6 * (eA g0 233 1).toInt + 3) from fun z => kn z.1)).symm; refine Eq.trans ?_ (if_neg (show ¬ (((1 ≤ a1.toInt ∧ a1.toInt ≤ 9 ∧ 0 ≤ a4.toInt ∧ a4.toInt ≤ 99 ∧ 0 ≤ a5.toInt ∧ a5.toInt ≤ 9 ∧ 0 ≤ a6.toInt ∧ a6.toInt ≤ 9999) ∧ (0 ≤ a2.toInt ∧ a2.toInt < (eA g0 233 0).toInt ∧ 0 ≤ a3.toInt ∧ a3.toInt < (eA g0 233 0).toInt) ∧ (eA g0 233 1).toInt < 8) ∧ i = 46 + 6 * (eA g0 233 1).toInt + 4) from fun z => kn z.1)).symm; refine Eq.trans ?_ (if_neg (show ¬ (((1 ≤ a1.toInt ∧ a1.toInt ≤ 9 ∧ 0 ≤ a4.toInt ∧ a4.toInt ≤ 99 ∧ 0 ≤ a5.toInt ∧ a5.toInt ≤ 9 ∧ 0 ≤ a6.toInt ∧ a6.toInt ≤ 9999) ∧ (0 ≤ a2.toInt ∧ a2.toInt < (eA g0 233 0).toInt ∧ 0 ≤ a3.toInt ∧ a3.toInt < (eA g0 233 0).toInt) ∧ (eA g0 233 1).toInt < 8) ∧ i = 46 + 6 * (eA g0 233 1).toInt + 5) from fun z => kn z.1)).symm; refine (eA_ti (((hF486.2.1 233 (by decide)).trans (gA_sI)))).trans ?_; (first | rfl | exact eA_ix (by omega) | omega))⟩⟩
                  · have c483_ : v479.toInt ≥ 0 := en_j_lt_f c483
                    refine At.enter rfl ?_
                    refine r_lload_n rfl ?_
                    refine r_lload rfl ?_
                    refine r_lcmp _ rfl ?_
                    refine r_ifs 13 rfl (fun c506 => ?_) (fun c506 => ?_)
                    · have c506_ : v479.toInt > v482.toInt := en_j_gt_t c506
                      refine At.enter rfl ?_
                      refine r_iconst 0 rfl ?_
                      refine Ar.fall 18 rfl ?_
                      refine At.enter rfl ?_
                      refine q_iretz (by decide) ?_
                      refine At.enter rfl ?_
                      refine q_iretz (by decide) ?_
                      refine At.enter rfl ?_
                      refine r_ift (by decide) ?_
                      refine At.enter rfl ?_
                      refine r_aload_n rfl ?_
                      refine r_bipush (-2) rfl ?_
                      refine r_callV 46 rfl [.ref 231, .int (-2)] [] (Nat.le_of_ble_eq_true rfl) rfl (T_X11_tell_231 _ hI281 (-2) (by decide)) ?_
                      rintro _ _ ⟨g507, rfl, hI508, hF509, v510, rfl, hr511⟩
                      refine At.sti ?_
                      have hF512 := Fr.tr hF282 hF509 rfl rfl
                      have zv513 : ((-2) : Int32).toInt = (-2) := rfl
                      refine At.enter rfl ?_
                      refine r_ireti ?_
                      obtain ⟨v514, hv514⟩ : ∃ v, eA g0 233 1 = v := ⟨_, rfl⟩
                      have tv514 := congrArg Int32.toInt hv514
                      have wv514 := HI.t1 hI0
                      rw [hv514] at wv514
                      have tv514 := congrArg Int32.toInt hv514
                      have x515 := HI.eqA hI508 (p := 233) (j := 1) ((((eA_c (hF509.2.1 233 (by decide))).trans (eA_c gA_sI)).trans hv514))
                      have x516 := HI.eqA hI508 (p := 233) (j := 0) ((((eA_c (hF509.2.1 233 (by decide))).trans (eA_c gA_sI)).trans hv480))
                      obtain ⟨v517, hv517⟩ : ∃ v, eA g0 233 4 = v := ⟨_, rfl⟩
                      have wv517 := HI.t4 hI0
                      rw [hv517] at wv517
                      have tv517 := congrArg Int32.toInt hv517
                      have x518 := HI.eqA hI508 (p := 233) (j := 4) ((((eA_c (hF509.2.1 233 (by decide))).trans (eA_c gA_sI)).trans hv517))
                      obtain ⟨v519, hv519⟩ : ∃ v, eA g0 233 5 = v := ⟨_, rfl⟩
                      have wv519 := HI.t5 hI0
                      rw [hv519] at wv519
                      have tv519 := congrArg Int32.toInt hv519
                      have x520 := HI.eqA hI508 (p := 233) (j := 5) ((((eA_c (hF509.2.1 233 (by decide))).trans (eA_c gA_sI)).trans hv519))
                      obtain ⟨v521, hv521⟩ : ∃ v, eA g0 233 6 = v := ⟨_, rfl⟩
                      have wv521 := HI.t6 hI0
                      rw [hv521] at wv521
                      have tv521 := congrArg Int32.toInt hv521
                      have x522 := HI.eqA hI508 (p := 233) (j := 6) ((((eA_c (hF509.2.1 233 (by decide))).trans (eA_c gA_sI)).trans hv521))
                      have x523 := HI.eqA hI0 (p := 233) (j := 1) (hv514)
                      have x524 := HI.eqA hI0 (p := 233) (j := 0) (hv480)
                      have x525 := HI.eqA hI0 (p := 233) (j := 0) (hv480)
                      have x526 := HI.eqA hI0 (p := 233) (j := 4) (hv517)
                      have x527 := HI.eqA hI0 (p := 233) (j := 5) (hv519)
                      have x528 := HI.eqA hI0 (p := 233) (j := 6) (hv521)
                      exact ⟨_, rfl, hI508, hF512, _, rfl, by omega, ⟨⟨by omega, by omega, by omega, by omega, by omega, by omega, by omega, by omega⟩, (by intro i i0 i1; refine (eA_ti (((hF509.2.1 233 (by decide)).trans (gA_sI)))).trans ?_; (first | rfl | exact eA_ix (by omega) | omega)), (by intro i i0 i1; refine (eA_ti (((hF509.2.1 233 (by decide)).trans (gA_sI)))).trans ?_; (first | rfl | exact eA_ix (by omega) | omega)), (by have kn : ¬ ((1 ≤ a1.toInt ∧ a1.toInt ≤ 9 ∧ 0 ≤ a4.toInt ∧ a4.toInt ≤ 99 ∧ 0 ≤ a5.toInt ∧ a5.toInt ≤ 9 ∧ 0 ≤ a6.toInt ∧ a6.toInt ≤ 9999) ∧ (0 ≤ a2.toInt ∧ a2.toInt < (eA g0 233 0).toInt ∧ 0 ≤ a3.toInt ∧ a3.toInt < (eA g0 233 0).toInt) ∧ (eA g0 233 1).toInt < 8) := (by omega); intro i i0 i1; refine Eq.trans ?_ (if_neg (show ¬ (((1 ≤ a1.toInt ∧ a1.toInt ≤ 9 ∧ 0 ≤ a4.toInt ∧ a4.toInt ≤ 99 ∧ 0 ≤ a5.toInt ∧ a5.toInt ≤ 9 ∧ 0 ≤ a6.toInt ∧ a6.toInt ≤ 9999) ∧ (0 ≤ a2.toInt ∧ a2.toInt < (eA g0 233 0).toInt ∧ 0 ≤ a3.toInt ∧ a3.toInt < (eA g0 233 0).toInt) ∧ (eA g0 233 1).toInt < 8) ∧ i = 46 + 6 * (eA g0 233 1).toInt + 0) from fun z => kn z.1)).symm; refine Eq.trans ?_ (if_neg (show ¬ (((1 ≤ a1.toInt ∧ a1.toInt ≤ 9 ∧ 0 ≤ a4.toInt ∧ a4.toInt ≤ 99 ∧ 0 ≤ a5.toInt ∧ a5.toInt ≤ 9 ∧ 0 ≤ a6.toInt ∧ a6.toInt ≤ 9999) ∧ (0 ≤ a2.toInt ∧ a2.toInt < (eA g0 233 0).toInt ∧ 0 ≤ a3.toInt ∧ a3.toInt < (eA g0 233 0).toInt) ∧ (eA g0 233 1).toInt < 8) ∧ i = 46 + 6 * (eA g0 233 1).toInt + 1) from fun z => kn z.1)).symm; refine Eq.trans ?_ (if_neg (show ¬ (((1 ≤ a1.toInt ∧ a1.toInt ≤ 9 ∧ 0 ≤ a4.toInt ∧ a4.toInt ≤ 99 ∧ 0 ≤ a5.toInt ∧ a5.toInt ≤ 9 ∧ 0 ≤ a6.toInt ∧ a6.toInt ≤ 9999) ∧ (0 ≤ a2.toInt ∧ a2.toInt < (eA g0 233 0).toInt ∧ 0 ≤ a3.toInt ∧ a3.toInt < (eA g0 233 0).toInt) ∧ (eA g0 233 1).toInt < 8) ∧ i = 46 + 6 * (eA g0 233 1).toInt + 2) from fun z => kn z.1)).symm; refine Eq.trans ?_ (if_neg (show ¬ (((1 ≤ a1.toInt ∧ a1.toInt ≤ 9 ∧ 0 ≤ a4.toInt ∧ a4.toInt ≤ 99 ∧ 0 ≤ a5.toInt ∧ a5.toInt ≤ 9 ∧ 0 ≤ a6.toInt ∧ a6.toInt ≤ 9999) ∧ (0 ≤ a2.toInt ∧ a2.toInt < (eA g0 233 0).toInt ∧ 0 ≤ a3.toInt ∧ a3.toInt < (eA g0 233 0).toInt) ∧ (eA g0 233 1).toInt < 8) ∧ i = 46 + 6 * (eA g0 233 1).toInt + 3) from fun z => kn z.1)).symm; refine Eq.trans ?_ (if_neg (show ¬ (((1 ≤ a1.toInt ∧ a1.toInt ≤ 9 ∧ 0 ≤ a4.toInt ∧ a4.toInt ≤ 99 ∧ 0 ≤ a5.toInt ∧ a5.toInt ≤ 9 ∧ 0 ≤ a6.toInt ∧ a6.toInt ≤ 9999) ∧ (0 ≤ a2.toInt ∧ a2.toInt < (eA g0 233 0).toInt ∧ 0 ≤ a3.toInt ∧ a3.toInt < (eA g0 233 0).toInt) ∧ (eA g0 233 1).toInt < 8) ∧ i = 46 + 6 * (eA g0 233 1).toInt + 4) from fun z => kn z.1)).symm; refine Eq.trans ?_ (if_neg (show ¬ (((1 ≤ a1.toInt ∧ a1.toInt ≤ 9 ∧ 0 ≤ a4.toInt ∧ a4.toInt ≤ 99 ∧ 0 ≤ a5.toInt ∧ a5.toInt ≤ 9 ∧ 0 ≤ a6.toInt ∧ a6.toInt ≤ 9999) ∧ (0 ≤ a2.toInt ∧ a2.toInt < (eA g0 233 0).toInt ∧ 0 ≤ a3.toInt ∧ a3.toInt < (eA g0 233 0).toInt) ∧ (eA g0 233 1).toInt < 8) ∧ i = 46 + 6 * (eA g0 233 1).toInt + 5) from fun z => kn z.1)).symm; refine (eA_ti (((hF509.2.1 233 (by decide)).trans (gA_sI)))).trans ?_; (first | rfl | exact eA_ix (by omega) | omega))⟩⟩
                    · have c506_ : v479.toInt ≤ v482.toInt := en_j_gt_f c506
                      refine At.enter rfl ?_
                      refine r_iconst 1 rfl ?_
                      refine r_goto ?_
                      refine At.enter rfl ?_
                      refine q_iretz (by decide) ?_
                      refine At.enter rfl ?_
                      refine q_iretz (by decide) ?_
                      refine At.enter rfl ?_
                      refine r_iff 32 rfl (by decide) ?_
                      refine At.enter rfl ?_
                      refine r_aload_n rfl ?_
                      refine r_iload_n rfl ?_
                      refine q_inlV 37 rfl [.ref 231, .int a3] [] (Nat.le_of_ble_eq_true rfl) rfl ?_
                      refine Ev.mk rfl rfl ⟨Nat.le_of_ble_eq_true rfl, Or.inr (q_rc hI281.1 kx_231 rfl)⟩ ?_
                      show At _ none _ _ (0, [(0, .ref 231), (1, .int a3)], [], (_, _)) _
                      refine At.enter rfl ?_
                      refine r_iload_n rfl ?_
                      refine q_i2l (fun v529 hv529 => ?_)
                      refine r_lconst 0 rfl ?_
                      refine r_aload_n rfl ?_
                      refine q_getR (Sh.ref hI281.1 kx_231 rfl) ?_
                      refine r_iconst 0 rfl ?_
                      refine q_iald (Sh.arr hI281.1 ka_233) 0 rfl (by decide) v480 ((eA_c (gA_sI)).trans hv480) ?_
                      refine q_i2l (fun v530 hv530 => ?_)
                      refine r_lconst 1 rfl ?_
                      refine q_lsub (v530.toInt - 1) rfl (by omega) (fun v531 hv531 => ?_)
                      refine q_inlS 15 rfl [.long v529, .long 0, .long v531] [] (Nat.le_of_ble_eq_true rfl) rfl ?_
                      refine Ev.mk rfl rfl ⟨Nat.le_of_ble_eq_true rfl, Or.inl rfl⟩ ?_
                      show At _ none _ _ (0, [(0, .long v529), (2, .long 0), (4, .long v531)], [], (_, _)) _
                      refine At.enter rfl ?_
                      refine r_lload_n rfl ?_
                      refine r_lload_n rfl ?_
                      refine r_lcmp _ rfl ?_
                      refine r_ifs 6 rfl (fun c532 => ?_) (fun c532 => ?_)
                      · have c532_ : v529.toInt < 0 := en_j_lt_t c532
                        refine At.enter rfl ?_
                        refine r_iconst 0 rfl ?_
                        refine Ar.fall 18 rfl ?_
                        refine At.enter rfl ?_
                        refine q_iretz (by decide) ?_
                        refine At.enter rfl ?_
                        refine q_iretz (by decide) ?_
                        refine At.enter rfl ?_
                        refine r_iff 40 rfl (by decide) ?_
                        refine At.enter rfl ?_
                        refine r_aload_n rfl ?_
                        refine r_bipush (-2) rfl ?_
                        refine r_callV 46 rfl [.ref 231, .int (-2)] [] (Nat.le_of_ble_eq_true rfl) rfl (T_X11_tell_231 _ hI281 (-2) (by decide)) ?_
                        rintro _ _ ⟨g533, rfl, hI534, hF535, v536, rfl, hr537⟩
                        refine At.sti ?_
                        have hF538 := Fr.tr hF282 hF535 rfl rfl
                        have zv539 : ((-2) : Int32).toInt = (-2) := rfl
                        refine At.enter rfl ?_
                        refine r_ireti ?_
                        obtain ⟨v540, hv540⟩ : ∃ v, eA g0 233 1 = v := ⟨_, rfl⟩
                        have tv540 := congrArg Int32.toInt hv540
                        have wv540 := HI.t1 hI0
                        rw [hv540] at wv540
                        have tv540 := congrArg Int32.toInt hv540
                        have x541 := HI.eqA hI534 (p := 233) (j := 1) ((((eA_c (hF535.2.1 233 (by decide))).trans (eA_c gA_sI)).trans hv540))
                        have x542 := HI.eqA hI534 (p := 233) (j := 0) ((((eA_c (hF535.2.1 233 (by decide))).trans (eA_c gA_sI)).trans hv480))
                        obtain ⟨v543, hv543⟩ : ∃ v, eA g0 233 4 = v := ⟨_, rfl⟩
                        have wv543 := HI.t4 hI0
                        rw [hv543] at wv543
                        have tv543 := congrArg Int32.toInt hv543
                        have x544 := HI.eqA hI534 (p := 233) (j := 4) ((((eA_c (hF535.2.1 233 (by decide))).trans (eA_c gA_sI)).trans hv543))
                        obtain ⟨v545, hv545⟩ : ∃ v, eA g0 233 5 = v := ⟨_, rfl⟩
                        have wv545 := HI.t5 hI0
                        rw [hv545] at wv545
                        have tv545 := congrArg Int32.toInt hv545
                        have x546 := HI.eqA hI534 (p := 233) (j := 5) ((((eA_c (hF535.2.1 233 (by decide))).trans (eA_c gA_sI)).trans hv545))
                        obtain ⟨v547, hv547⟩ : ∃ v, eA g0 233 6 = v := ⟨_, rfl⟩
                        have wv547 := HI.t6 hI0
                        rw [hv547] at wv547
                        have tv547 := congrArg Int32.toInt hv547
                        have x548 := HI.eqA hI534 (p := 233) (j := 6) ((((eA_c (hF535.2.1 233 (by decide))).trans (eA_c gA_sI)).trans hv547))
                        have x549 := HI.eqA hI0 (p := 233) (j := 1) (hv540)
                        have x550 := HI.eqA hI0 (p := 233) (j := 0) (hv480)
                        have x551 := HI.eqA hI0 (p := 233) (j := 0) (hv480)
                        have x552 := HI.eqA hI0 (p := 233) (j := 4) (hv543)
                        have x553 := HI.eqA hI0 (p := 233) (j := 5) (hv545)
                        have x554 := HI.eqA hI0 (p := 233) (j := 6) (hv547)
                        exact ⟨_, rfl, hI534, hF538, _, rfl, by omega, ⟨⟨by omega, by omega, by omega, by omega, by omega, by omega, by omega, by omega⟩, (by intro i i0 i1; refine (eA_ti (((hF535.2.1 233 (by decide)).trans (gA_sI)))).trans ?_; (first | rfl | exact eA_ix (by omega) | omega)), (by intro i i0 i1; refine (eA_ti (((hF535.2.1 233 (by decide)).trans (gA_sI)))).trans ?_; (first | rfl | exact eA_ix (by omega) | omega)), (by have kn : ¬ ((1 ≤ a1.toInt ∧ a1.toInt ≤ 9 ∧ 0 ≤ a4.toInt ∧ a4.toInt ≤ 99 ∧ 0 ≤ a5.toInt ∧ a5.toInt ≤ 9 ∧ 0 ≤ a6.toInt ∧ a6.toInt ≤ 9999) ∧ (0 ≤ a2.toInt ∧ a2.toInt < (eA g0 233 0).toInt ∧ 0 ≤ a3.toInt ∧ a3.toInt < (eA g0 233 0).toInt) ∧ (eA g0 233 1).toInt < 8) := (by omega); intro i i0 i1; refine Eq.trans ?_ (if_neg (show ¬ (((1 ≤ a1.toInt ∧ a1.toInt ≤ 9 ∧ 0 ≤ a4.toInt ∧ a4.toInt ≤ 99 ∧ 0 ≤ a5.toInt ∧ a5.toInt ≤ 9 ∧ 0 ≤ a6.toInt ∧ a6.toInt ≤ 9999) ∧ (0 ≤ a2.toInt ∧ a2.toInt < (eA g0 233 0).toInt ∧ 0 ≤ a3.toInt ∧ a3.toInt < (eA g0 233 0).toInt) ∧ (eA g0 233 1).toInt < 8) ∧ i = 46 + 6 * (eA g0 233 1).toInt + 0) from fun z => kn z.1)).symm; refine Eq.trans ?_ (if_neg (show ¬ (((1 ≤ a1.toInt ∧ a1.toInt ≤ 9 ∧ 0 ≤ a4.toInt ∧ a4.toInt ≤ 99 ∧ 0 ≤ a5.toInt ∧ a5.toInt ≤ 9 ∧ 0 ≤ a6.toInt ∧ a6.toInt ≤ 9999) ∧ (0 ≤ a2.toInt ∧ a2.toInt < (eA g0 233 0).toInt ∧ 0 ≤ a3.toInt ∧ a3.toInt < (eA g0 233 0).toInt) ∧ (eA g0 233 1).toInt < 8) ∧ i = 46 + 6 * (eA g0 233 1).toInt + 1) from fun z => kn z.1)).symm; refine Eq.trans ?_ (if_neg (show ¬ (((1 ≤ a1.toInt ∧ a1.toInt ≤ 9 ∧ 0 ≤ a4.toInt ∧ a4.toInt ≤ 99 ∧ 0 ≤ a5.toInt ∧ a5.toInt ≤ 9 ∧ 0 ≤ a6.toInt ∧ a6.toInt ≤ 9999) ∧ (0 ≤ a2.toInt ∧ a2.toInt < (eA g0 233 0).toInt ∧ 0 ≤ a3.toInt ∧ a3.toInt < (eA g0 233 0).toInt) ∧ (eA g0 233 1).toInt < 8) ∧ i = 46 + 6 * (eA g0 233 1).toInt + 2) from fun z => kn z.1)).symm; refine Eq.trans ?_ (if_neg (show ¬ (((1 ≤ a1.toInt ∧ a1.toInt ≤ 9 ∧ 0 ≤ a4.toInt ∧ a4.toInt ≤ 99 ∧ 0 ≤ a5.toInt ∧ a5.toInt ≤ 9 ∧ 0 ≤ a6.toInt ∧ a6.toInt ≤ 9999) ∧ (0 ≤ a2.toInt ∧ a2.toInt < (eA g0 233 0).toInt ∧ 0 ≤ a3.toInt ∧ a3.toInt < (eA g0 233 0).toInt) ∧ (eA g0 233 1).toInt < 8) ∧ i = 46 + 6 * (eA g0 233 1).toInt + 3) from fun z => kn z.1)).symm; refine Eq.trans ?_ (if_neg (show ¬ (((1 ≤ a1.toInt ∧ a1.toInt ≤ 9 ∧ 0 ≤ a4.toInt ∧ a4.toInt ≤ 99 ∧ 0 ≤ a5.toInt ∧ a5.toInt ≤ 9 ∧ 0 ≤ a6.toInt ∧ a6.toInt ≤ 9999) ∧ (0 ≤ a2.toInt ∧ a2.toInt < (eA g0 233 0).toInt ∧ 0 ≤ a3.toInt ∧ a3.toInt < (eA g0 233 0).toInt) ∧ (eA g0 233 1).toInt < 8) ∧ i = 46 + 6 * (eA g0 233 1).toInt + 4) from fun z => kn z.1)).symm; refine Eq.trans ?_ (if_neg (show ¬ (((1 ≤ a1.toInt ∧ a1.toInt ≤ 9 ∧ 0 ≤ a4.toInt ∧ a4.toInt ≤ 99 ∧ 0 ≤ a5.toInt ∧ a5.toInt ≤ 9 ∧ 0 ≤ a6.toInt ∧ a6.toInt ≤ 9999) ∧ (0 ≤ a2.toInt ∧ a2.toInt < (eA g0 233 0).toInt ∧ 0 ≤ a3.toInt ∧ a3.toInt < (eA g0 233 0).toInt) ∧ (eA g0 233 1).toInt < 8) ∧ i = 46 + 6 * (eA g0 233 1).toInt + 5) from fun z => kn z.1)).symm; refine (eA_ti (((hF535.2.1 233 (by decide)).trans (gA_sI)))).trans ?_; (first | rfl | exact eA_ix (by omega) | omega))⟩⟩
                      · have c532_ : v529.toInt ≥ 0 := en_j_lt_f c532
                        refine At.enter rfl ?_
                        refine r_lload_n rfl ?_
                        refine r_lload rfl ?_
                        refine r_lcmp _ rfl ?_
                        refine r_ifs 13 rfl (fun c555 => ?_) (fun c555 => ?_)
                        · have c555_ : v529.toInt > v531.toInt := en_j_gt_t c555
                          refine At.enter rfl ?_
                          refine r_iconst 0 rfl ?_
                          refine Ar.fall 18 rfl ?_
                          refine At.enter rfl ?_
                          refine q_iretz (by decide) ?_
                          refine At.enter rfl ?_
                          refine q_iretz (by decide) ?_
                          refine At.enter rfl ?_
                          refine r_iff 40 rfl (by decide) ?_
                          refine At.enter rfl ?_
                          refine r_aload_n rfl ?_
                          refine r_bipush (-2) rfl ?_
                          refine r_callV 46 rfl [.ref 231, .int (-2)] [] (Nat.le_of_ble_eq_true rfl) rfl (T_X11_tell_231 _ hI281 (-2) (by decide)) ?_
                          rintro _ _ ⟨g556, rfl, hI557, hF558, v559, rfl, hr560⟩
                          refine At.sti ?_
                          have hF561 := Fr.tr hF282 hF558 rfl rfl
                          have zv562 : ((-2) : Int32).toInt = (-2) := rfl
                          refine At.enter rfl ?_
                          refine r_ireti ?_
                          obtain ⟨v563, hv563⟩ : ∃ v, eA g0 233 1 = v := ⟨_, rfl⟩
                          have tv563 := congrArg Int32.toInt hv563
                          have wv563 := HI.t1 hI0
                          rw [hv563] at wv563
                          have tv563 := congrArg Int32.toInt hv563
                          have x564 := HI.eqA hI557 (p := 233) (j := 1) ((((eA_c (hF558.2.1 233 (by decide))).trans (eA_c gA_sI)).trans hv563))
                          have x565 := HI.eqA hI557 (p := 233) (j := 0) ((((eA_c (hF558.2.1 233 (by decide))).trans (eA_c gA_sI)).trans hv480))
                          obtain ⟨v566, hv566⟩ : ∃ v, eA g0 233 4 = v := ⟨_, rfl⟩
                          have wv566 := HI.t4 hI0
                          rw [hv566] at wv566
                          have tv566 := congrArg Int32.toInt hv566
                          have x567 := HI.eqA hI557 (p := 233) (j := 4) ((((eA_c (hF558.2.1 233 (by decide))).trans (eA_c gA_sI)).trans hv566))
                          obtain ⟨v568, hv568⟩ : ∃ v, eA g0 233 5 = v := ⟨_, rfl⟩
                          have wv568 := HI.t5 hI0
                          rw [hv568] at wv568
                          have tv568 := congrArg Int32.toInt hv568
                          have x569 := HI.eqA hI557 (p := 233) (j := 5) ((((eA_c (hF558.2.1 233 (by decide))).trans (eA_c gA_sI)).trans hv568))
                          obtain ⟨v570, hv570⟩ : ∃ v, eA g0 233 6 = v := ⟨_, rfl⟩
                          have wv570 := HI.t6 hI0
                          rw [hv570] at wv570
                          have tv570 := congrArg Int32.toInt hv570
                          have x571 := HI.eqA hI557 (p := 233) (j := 6) ((((eA_c (hF558.2.1 233 (by decide))).trans (eA_c gA_sI)).trans hv570))
                          have x572 := HI.eqA hI0 (p := 233) (j := 1) (hv563)
                          have x573 := HI.eqA hI0 (p := 233) (j := 0) (hv480)
                          have x574 := HI.eqA hI0 (p := 233) (j := 0) (hv480)
                          have x575 := HI.eqA hI0 (p := 233) (j := 4) (hv566)
                          have x576 := HI.eqA hI0 (p := 233) (j := 5) (hv568)
                          have x577 := HI.eqA hI0 (p := 233) (j := 6) (hv570)
                          exact ⟨_, rfl, hI557, hF561, _, rfl, by omega, ⟨⟨by omega, by omega, by omega, by omega, by omega, by omega, by omega, by omega⟩, (by intro i i0 i1; refine (eA_ti (((hF558.2.1 233 (by decide)).trans (gA_sI)))).trans ?_; (first | rfl | exact eA_ix (by omega) | omega)), (by intro i i0 i1; refine (eA_ti (((hF558.2.1 233 (by decide)).trans (gA_sI)))).trans ?_; (first | rfl | exact eA_ix (by omega) | omega)), (by have kn : ¬ ((1 ≤ a1.toInt ∧ a1.toInt ≤ 9 ∧ 0 ≤ a4.toInt ∧ a4.toInt ≤ 99 ∧ 0 ≤ a5.toInt ∧ a5.toInt ≤ 9 ∧ 0 ≤ a6.toInt ∧ a6.toInt ≤ 9999) ∧ (0 ≤ a2.toInt ∧ a2.toInt < (eA g0 233 0).toInt ∧ 0 ≤ a3.toInt ∧ a3.toInt < (eA g0 233 0).toInt) ∧ (eA g0 233 1).toInt < 8) := (by omega); intro i i0 i1; refine Eq.trans ?_ (if_neg (show ¬ (((1 ≤ a1.toInt ∧ a1.toInt ≤ 9 ∧ 0 ≤ a4.toInt ∧ a4.toInt ≤ 99 ∧ 0 ≤ a5.toInt ∧ a5.toInt ≤ 9 ∧ 0 ≤ a6.toInt ∧ a6.toInt ≤ 9999) ∧ (0 ≤ a2.toInt ∧ a2.toInt < (eA g0 233 0).toInt ∧ 0 ≤ a3.toInt ∧ a3.toInt < (eA g0 233 0).toInt) ∧ (eA g0 233 1).toInt < 8) ∧ i = 46 + 6 * (eA g0 233 1).toInt + 0) from fun z => kn z.1)).symm; refine Eq.trans ?_ (if_neg (show ¬ (((1 ≤ a1.toInt ∧ a1.toInt ≤ 9 ∧ 0 ≤ a4.toInt ∧ a4.toInt ≤ 99 ∧ 0 ≤ a5.toInt ∧ a5.toInt ≤ 9 ∧ 0 ≤ a6.toInt ∧ a6.toInt ≤ 9999) ∧ (0 ≤ a2.toInt ∧ a2.toInt < (eA g0 233 0).toInt ∧ 0 ≤ a3.toInt ∧ a3.toInt < (eA g0 233 0).toInt) ∧ (eA g0 233 1).toInt < 8) ∧ i = 46 + 6 * (eA g0 233 1).toInt + 1) from fun z => kn z.1)).symm; refine Eq.trans ?_ (if_neg (show ¬ (((1 ≤ a1.toInt ∧ a1.toInt ≤ 9 ∧ 0 ≤ a4.toInt ∧ a4.toInt ≤ 99 ∧ 0 ≤ a5.toInt ∧ a5.toInt ≤ 9 ∧ 0 ≤ a6.toInt ∧ a6.toInt ≤ 9999) ∧ (0 ≤ a2.toInt ∧ a2.toInt < (eA g0 233 0).toInt ∧ 0 ≤ a3.toInt ∧ a3.toInt < (eA g0 233 0).toInt) ∧ (eA g0 233 1).toInt < 8) ∧ i = 46 + 6 * (eA g0 233 1).toInt + 2) from fun z => kn z.1)).symm; refine Eq.trans ?_ (if_neg (show ¬ (((1 ≤ a1.toInt ∧ a1.toInt ≤ 9 ∧ 0 ≤ a4.toInt ∧ a4.toInt ≤ 99 ∧ 0 ≤ a5.toInt ∧ a5.toInt ≤ 9 ∧ 0 ≤ a6.toInt ∧ a6.toInt ≤ 9999) ∧ (0 ≤ a2.toInt ∧ a2.toInt < (eA g0 233 0).toInt ∧ 0 ≤ a3.toInt ∧ a3.toInt < (eA g0 233 0).toInt) ∧ (eA g0 233 1).toInt < 8) ∧ i = 46 + 6 * (eA g0 233 1).toInt + 3) from fun z => kn z.1)).symm; refine Eq.trans ?_ (if_neg (show ¬ (((1 ≤ a1.toInt ∧ a1.toInt ≤ 9 ∧ 0 ≤ a4.toInt ∧ a4.toInt ≤ 99 ∧ 0 ≤ a5.toInt ∧ a5.toInt ≤ 9 ∧ 0 ≤ a6.toInt ∧ a6.toInt ≤ 9999) ∧ (0 ≤ a2.toInt ∧ a2.toInt < (eA g0 233 0).toInt ∧ 0 ≤ a3.toInt ∧ a3.toInt < (eA g0 233 0).toInt) ∧ (eA g0 233 1).toInt < 8) ∧ i = 46 + 6 * (eA g0 233 1).toInt + 4) from fun z => kn z.1)).symm; refine Eq.trans ?_ (if_neg (show ¬ (((1 ≤ a1.toInt ∧ a1.toInt ≤ 9 ∧ 0 ≤ a4.toInt ∧ a4.toInt ≤ 99 ∧ 0 ≤ a5.toInt ∧ a5.toInt ≤ 9 ∧ 0 ≤ a6.toInt ∧ a6.toInt ≤ 9999) ∧ (0 ≤ a2.toInt ∧ a2.toInt < (eA g0 233 0).toInt ∧ 0 ≤ a3.toInt ∧ a3.toInt < (eA g0 233 0).toInt) ∧ (eA g0 233 1).toInt < 8) ∧ i = 46 + 6 * (eA g0 233 1).toInt + 5) from fun z => kn z.1)).symm; refine (eA_ti (((hF558.2.1 233 (by decide)).trans (gA_sI)))).trans ?_; (first | rfl | exact eA_ix (by omega) | omega))⟩⟩
                        · have c555_ : v529.toInt ≤ v531.toInt := en_j_gt_f c555
                          refine At.enter rfl ?_
                          refine r_iconst 1 rfl ?_
                          refine r_goto ?_
                          refine At.enter rfl ?_
                          refine q_iretz (by decide) ?_
                          refine At.enter rfl ?_
                          refine q_iretz (by decide) ?_
                          refine At.enter rfl ?_
                          refine r_ift (by decide) ?_
                          refine At.enter rfl ?_
                          refine r_aload_n rfl ?_
                          refine q_getR (Sh.ref hI281.1 kx_231 rfl) ?_
                          refine r_iconst 1 rfl ?_
                          obtain ⟨v578, hv578⟩ : ∃ v, eA g0 233 1 = v := ⟨_, rfl⟩
                          have tv578 := congrArg Int32.toInt hv578
                          have wv578 := HI.t1 hI0
                          rw [hv578] at wv578
                          refine q_iald (Sh.arr hI281.1 ka_233) 1 rfl (by decide) v578 ((eA_c (gA_sI)).trans hv578) ?_
                          refine r_bipush 8 rfl ?_
                          refine r_ics 58 rfl (fun c579 => ?_) (fun c579 => ?_)
                          · have c579_ : v578.toInt ≠ 8 := en_i_ne_t c579
                            refine At.enter rfl ?_
                            refine r_aload_n rfl ?_
                            refine r_iload_n rfl ?_
                            refine r_iload_n rfl ?_
                            refine r_iload_n rfl ?_
                            refine r_iload rfl ?_
                            refine r_iload rfl ?_
                            refine r_iload rfl ?_
                            have x580 := HI.eqA hI281 (p := 233) (j := 0) (((eA_c gA_sI).trans hv480))
                            have x581 := HI.eqA hI281 (p := 233) (j := 1) (((eA_c gA_sI).trans hv578))
                            refine r_callV 78 rfl [.ref 231, .int a1, .int a2, .int a3, .int a4, .int a5, .int a6] [] (Nat.le_of_ble_eq_true rfl) rfl (T_X11_addLoad_231 _ hI281 a1 (by omega) a2 (by omega) a3 (by omega) a4 (by omega) a5 (by omega) a6 (by omega) (by omega) (by omega) (by omega)) ?_
                            rintro _ _ ⟨g582, rfl, hI583, hF584, rfl, hr586⟩
                            refine At.stn ?_
                            have hF587 := Fr.tr hF282 hF584 rfl rfl
                            obtain ⟨v588, hv588⟩ : ∃ v, eA g0 233 2 = v := ⟨_, rfl⟩
                            have tv588 := congrArg Int32.toInt hv588
                            have wv588 := HI.t2 hI0
                            rw [hv588] at wv588
                            have tv588 := congrArg Int32.toInt hv588
                            obtain ⟨v589, hv589⟩ : ∃ v, eA g0 233 4 = v := ⟨_, rfl⟩
                            have wv589 := HI.t4 hI0
                            rw [hv589] at wv589
                            have tv589 := congrArg Int32.toInt hv589
                            obtain ⟨v590, hv590⟩ : ∃ v, eA g0 233 5 = v := ⟨_, rfl⟩
                            have wv590 := HI.t5 hI0
                            rw [hv590] at wv590
                            have tv590 := congrArg Int32.toInt hv590
                            obtain ⟨v591, hv591⟩ : ∃ v, eA g0 233 6 = v := ⟨_, rfl⟩
                            have wv591 := HI.t6 hI0
                            rw [hv591] at wv591
                            have tv591 := congrArg Int32.toInt hv591
                            obtain ⟨v592, hv592⟩ : ∃ v, eA g582 233 1 = v := ⟨_, rfl⟩
                            have y593 := hr586.2.1
                            have tv592 := congrArg Int32.toInt hv592
                            have x594 := HI.eqA hI281 (p := 233) (j := 1) (((eA_c gA_sI).trans hv578))
                            have fq595 := hr586.2.2.2
                            rw [show (eA _ 233 1).toInt = (eA g0 233 1).toInt from eA_ti (j := 1) ((gA_sI))] at fq595
                            have lw_v592 := fun i h0 h1 => congrArg Int32.toInt (hr586.1 i (Int.le_trans (by decide) h0) h1 (fun e => absurd (e ▸ h0 : (10 : Int) ≤ 1) (by decide)))
                            refine At.enter rfl ?_
                            refine r_aload_n rfl ?_
                            refine r_aload_n rfl ?_
                            refine q_getR (Sh.ref hI583.1 kx_231 rfl) ?_
                            refine r_iconst 1 rfl ?_
                            refine q_iald (Sh.arr hI583.1 ka_233) 1 rfl (by decide) v592 hv592 ?_
                            refine r_iconst 1 rfl ?_
                            refine q_isub (v592.toInt - 1) rfl (by omega) (fun v596 hv596 => ?_)
                            refine r_callV 90 rfl [.ref 231, .int v596] [] (Nat.le_of_ble_eq_true rfl) rfl (T_X11_tell_231 _ hI583 v596 (by omega)) ?_
                            rintro _ _ ⟨g597, rfl, hI598, hF599, v600, rfl, hr601⟩
                            refine At.sti ?_
                            have hF602 := Fr.tr hF587 hF599 rfl rfl
                            refine At.enter rfl ?_
                            refine r_ireti ?_
                            have x603 := HI.eqA hI598 (p := 233) (j := 1) (((eA_c (hF599.2.1 233 (by decide))).trans hv592))
                            have x604 := HI.eqA hI598 (p := 233) (j := 0) (((eA_c (hF599.2.1 233 (by decide))).trans ((hr586.1 0 (by decide) (by decide) (by decide)).trans ((eA_c gA_sI).trans hv480))))
                            have x605 := HI.eqA hI598 (p := 233) (j := 4) (((eA_c (hF599.2.1 233 (by decide))).trans ((hr586.1 4 (by decide) (by decide) (by decide)).trans ((eA_c gA_sI).trans hv589))))
                            have x606 := HI.eqA hI598 (p := 233) (j := 5) (((eA_c (hF599.2.1 233 (by decide))).trans ((hr586.1 5 (by decide) (by decide) (by decide)).trans ((eA_c gA_sI).trans hv590))))
                            have x607 := HI.eqA hI598 (p := 233) (j := 6) (((eA_c (hF599.2.1 233 (by decide))).trans ((hr586.1 6 (by decide) (by decide) (by decide)).trans ((eA_c gA_sI).trans hv591))))
                            have x608 := HI.eqA hI0 (p := 233) (j := 1) (hv578)
                            have x609 := HI.eqA hI0 (p := 233) (j := 0) (hv480)
                            have x610 := HI.eqA hI0 (p := 233) (j := 0) (hv480)
                            have x611 := HI.eqA hI0 (p := 233) (j := 4) (hv589)
                            have x612 := HI.eqA hI0 (p := 233) (j := 5) (hv590)
                            have x613 := HI.eqA hI0 (p := 233) (j := 6) (hv591)
                            exact ⟨_, rfl, hI598, hF602, _, rfl, by omega, ⟨⟨by omega, by omega, by omega, by omega, by omega, by omega, by omega, by omega⟩, (by intro i i0 i1; refine (eA_ti ((hF599.2.1 233 (by decide)))).trans ?_; (first | (refine ((hr586.2.2.1 (i) (by omega) (by omega))).trans ?_; refine (eA_ti ((gA_sI))).trans ?_; (first | rfl | exact eA_ix (by omega) | omega)) | (refine ((fq595 (i) (by omega) (by omega))).trans ?_; exact (Decidable.em ((i) = 46 + 6 * (eA g0 233 1).toInt + 0)).elim (fun k259_ => by refine (if_pos k259_).trans ?_; (first | rfl | exact eA_ix (by omega) | omega)) (fun k259_ => by refine (if_neg k259_).trans ?_; exact (Decidable.em ((i) = 46 + 6 * (eA g0 233 1).toInt + 1)).elim (fun k260_ => by refine (if_pos k260_).trans ?_; (first | rfl | exact eA_ix (by omega) | omega)) (fun k260_ => by refine (if_neg k260_).trans ?_; exact (Decidable.em ((i) = 46 + 6 * (eA g0 233 1).toInt + 2)).elim (fun k261_ => by refine (if_pos k261_).trans ?_; (first | rfl | exact eA_ix (by omega) | omega)) (fun k261_ => by refine (if_neg k261_).trans ?_; exact (Decidable.em ((i) = 46 + 6 * (eA g0 233 1).toInt + 3)).elim (fun k262_ => by refine (if_pos k262_).trans ?_; (first | rfl | exact eA_ix (by omega) | omega)) (fun k262_ => by refine (if_neg k262_).trans ?_; exact (Decidable.em ((i) = 46 + 6 * (eA g0 233 1).toInt + 4)).elim (fun k263_ => by refine (if_pos k263_).trans ?_; (first | rfl | exact eA_ix (by omega) | omega)) (fun k263_ => by refine (if_neg k263_).trans ?_; exact (Decidable.em ((i) = 46 + 6 * (eA g0 233 1).toInt + 5)).elim (fun k264_ => by refine (if_pos k264_).trans ?_; (first | rfl | exact eA_ix (by omega) | omega)) (fun k264_ => by refine (if_neg k264_).trans ?_; refine (eA_ti ((gA_sI))).trans ?_; (first | rfl | exact eA_ix (by omega) | omega)))))))) | (refine ((lw_v592 (i) (by omega) (by omega))).trans ?_; refine (eA_ti ((gA_sI))).trans ?_; (first | rfl | exact eA_ix (by omega) | omega)))), (by intro i i0 i1; refine (eA_ti ((hF599.2.1 233 (by decide)))).trans ?_; (first | (refine ((hr586.2.2.1 (i) (by omega) (by omega))).trans ?_; refine (eA_ti ((gA_sI))).trans ?_; (first | rfl | exact eA_ix (by omega) | omega)) | (refine ((fq595 (i) (by omega) (by omega))).trans ?_; exact (Decidable.em ((i) = 46 + 6 * (eA g0 233 1).toInt + 0)).elim (fun k265_ => by refine (if_pos k265_).trans ?_; (first | rfl | exact eA_ix (by omega) | omega)) (fun k265_ => by refine (if_neg k265_).trans ?_; exact (Decidable.em ((i) = 46 + 6 * (eA g0 233 1).toInt + 1)).elim (fun k266_ => by refine (if_pos k266_).trans ?_; (first | rfl | exact eA_ix (by omega) | omega)) (fun k266_ => by refine (if_neg k266_).trans ?_; exact (Decidable.em ((i) = 46 + 6 * (eA g0 233 1).toInt + 2)).elim (fun k267_ => by refine (if_pos k267_).trans ?_; (first | rfl | exact eA_ix (by omega) | omega)) (fun k267_ => by refine (if_neg k267_).trans ?_; exact (Decidable.em ((i) = 46 + 6 * (eA g0 233 1).toInt + 3)).elim (fun k268_ => by refine (if_pos k268_).trans ?_; (first | rfl | exact eA_ix (by omega) | omega)) (fun k268_ => by refine (if_neg k268_).trans ?_; exact (Decidable.em ((i) = 46 + 6 * (eA g0 233 1).toInt + 4)).elim (fun k269_ => by refine (if_pos k269_).trans ?_; (first | rfl | exact eA_ix (by omega) | omega)) (fun k269_ => by refine (if_neg k269_).trans ?_; exact (Decidable.em ((i) = 46 + 6 * (eA g0 233 1).toInt + 5)).elim (fun k270_ => by refine (if_pos k270_).trans ?_; (first | rfl | exact eA_ix (by omega) | omega)) (fun k270_ => by refine (if_neg k270_).trans ?_; refine (eA_ti ((gA_sI))).trans ?_; (first | rfl | exact eA_ix (by omega) | omega)))))))) | (refine ((lw_v592 (i) (by omega) (by omega))).trans ?_; refine (eA_ti ((gA_sI))).trans ?_; (first | rfl | exact eA_ix (by omega) | omega)))), (by have kp : (1 ≤ a1.toInt ∧ a1.toInt ≤ 9 ∧ 0 ≤ a4.toInt ∧ a4.toInt ≤ 99 ∧ 0 ≤ a5.toInt ∧ a5.toInt ≤ 9 ∧ 0 ≤ a6.toInt ∧ a6.toInt ≤ 9999) ∧ (0 ≤ a2.toInt ∧ a2.toInt < (eA g0 233 0).toInt ∧ 0 ≤ a3.toInt ∧ a3.toInt < (eA g0 233 0).toInt) ∧ (eA g0 233 1).toInt < 8 := (by omega); intro i i0 i1; exact (Decidable.em (i = 46 + 6 * (eA g0 233 1).toInt + 0)).elim (fun k271_ => by refine Eq.trans ?_ (if_pos ⟨kp, k271_⟩).symm; refine (eA_ti ((hF599.2.1 233 (by decide)))).trans ?_; (first | (refine ((hr586.2.2.1 (i) (by omega) (by omega))).trans ?_; refine (eA_ti ((gA_sI))).trans ?_; (first | rfl | exact eA_ix (by omega) | omega)) | (refine ((fq595 (i) (by omega) (by omega))).trans ?_; exact (Decidable.em ((i) = 46 + 6 * (eA g0 233 1).toInt + 0)).elim (fun k272_ => by refine (if_pos k272_).trans ?_; (first | rfl | exact eA_ix (by omega) | omega)) (fun k272_ => by refine (if_neg k272_).trans ?_; exact (Decidable.em ((i) = 46 + 6 * (eA g0 233 1).toInt + 1)).elim (fun k273_ => by refine (if_pos k273_).trans ?_; (first | rfl | exact eA_ix (by omega) | omega)) (fun k273_ => by refine (if_neg k273_).trans ?_; exact (Decidable.em ((i) = 46 + 6 * (eA g0 233 1).toInt + 2)).elim (fun k274_ => by refine (if_pos k274_).trans ?_; (first | rfl | exact eA_ix (by omega) | omega)) (fun k274_ => by refine (if_neg k274_).trans ?_; exact (Decidable.em ((i) = 46 + 6 * (eA g0 233 1).toInt + 3)).elim (fun k275_ => by refine (if_pos k275_).trans ?_; (first | rfl | exact eA_ix (by omega) | omega)) (fun k275_ => by refine (if_neg k275_).trans ?_; exact (Decidable.em ((i) = 46 + 6 * (eA g0 233 1).toInt + 4)).elim (fun k276_ => by refine (if_pos k276_).trans ?_; (first | rfl | exact eA_ix (by omega) | omega)) (fun k276_ => by refine (if_neg k276_).trans ?_; exact (Decidable.em ((i) = 46 + 6 * (eA g0 233 1).toInt + 5)).elim (fun k277_ => by refine (if_pos k277_).trans ?_; (first | rfl | exact eA_ix (by omega) | omega)) (fun k277_ => by refine (if_neg k277_).trans ?_; refine (eA_ti ((gA_sI))).trans ?_; (first | rfl | exact eA_ix (by omega) | omega)))))))) | (refine ((lw_v592 (i) (by omega) (by omega))).trans ?_; refine (eA_ti ((gA_sI))).trans ?_; (first | rfl | exact eA_ix (by omega) | omega)))) (fun k271_ => by refine Eq.trans ?_ (if_neg (fun z => k271_ z.2)).symm; exact (Decidable.em (i = 46 + 6 * (eA g0 233 1).toInt + 1)).elim (fun k278_ => by refine Eq.trans ?_ (if_pos ⟨kp, k278_⟩).symm; refine (eA_ti ((hF599.2.1 233 (by decide)))).trans ?_; (first | (refine ((hr586.2.2.1 (i) (by omega) (by omega))).trans ?_; refine (eA_ti ((gA_sI))).trans ?_; (first | rfl | exact eA_ix (by omega) | omega)) | (refine ((fq595 (i) (by omega) (by omega))).trans ?_; exact (Decidable.em ((i) = 46 + 6 * (eA g0 233 1).toInt + 0)).elim (fun k279_ => by refine (if_pos k279_).trans ?_; (first | rfl | exact eA_ix (by omega) | omega)) (fun k279_ => by refine (if_neg k279_).trans ?_; exact (Decidable.em ((i) = 46 + 6 * (eA g0 233 1).toInt + 1)).elim (fun k280_ => by refine (if_pos k280_).trans ?_; (first | rfl | exact eA_ix (by omega) | omega)) (fun k280_ => by refine (if_neg k280_).trans ?_; exact (Decidable.em ((i) = 46 + 6 * (eA g0 233 1).toInt + 2)).elim (fun k281_ => by refine (if_pos k281_).trans ?_; (first | rfl | exact eA_ix (by omega) | omega)) (fun k281_ => by refine (if_neg k281_).trans ?_; exact (Decidable.em ((i) = 46 + 6 * (eA g0 233 1).toInt + 3)).elim (fun k282_ => by refine (if_pos k282_).trans ?_; (first | rfl | exact eA_ix (by omega) | omega)) (fun k282_ => by refine (if_neg k282_).trans ?_; exact (Decidable.em ((i) = 46 + 6 * (eA g0 233 1).toInt + 4)).elim (fun k283_ => by refine (if_pos k283_).trans ?_; (first | rfl | exact eA_ix (by omega) | omega)) (fun k283_ => by refine (if_neg k283_).trans ?_; exact (Decidable.em ((i) = 46 + 6 * (eA g0 233 1).toInt + 5)).elim (fun k284_ => by refine (if_pos k284_).trans ?_; (first | rfl | exact eA_ix (by omega) | omega)) (fun k284_ => by refine (if_neg k284_).trans ?_; refine (eA_ti ((gA_sI))).trans ?_; (first | rfl | exact eA_ix (by omega) | omega)))))))) | (refine ((lw_v592 (i) (by omega) (by omega))).trans ?_; refine (eA_ti ((gA_sI))).trans ?_; (first | rfl | exact eA_ix (by omega) | omega)))) (fun k278_ => by refine Eq.trans ?_ (if_neg (fun z => k278_ z.2)).symm; exact (Decidable.em (i = 46 + 6 * (eA g0 233 1).toInt + 2)).elim (fun k285_ => by refine Eq.trans ?_ (if_pos ⟨kp, k285_⟩).symm; refine (eA_ti ((hF599.2.1 233 (by decide)))).trans ?_; (first | (refine ((hr586.2.2.1 (i) (by omega) (by omega))).trans ?_; refine (eA_ti ((gA_sI))).trans ?_; (first | rfl | exact eA_ix (by omega) | omega)) | (refine ((fq595 (i) (by omega) (by omega))).trans ?_; exact (Decidable.em ((i) = 46 + 6 * (eA g0 233 1).toInt + 0)).elim (fun k286_ => by refine (if_pos k286_).trans ?_; (first | rfl | exact eA_ix (by omega) | omega)) (fun k286_ => by refine (if_neg k286_).trans ?_; exact (Decidable.em ((i) = 46 + 6 * (eA g0 233 1).toInt + 1)).elim (fun k287_ => by refine (if_pos k287_).trans ?_; (first | rfl | exact eA_ix (by omega) | omega)) (fun k287_ => by refine (if_neg k287_).trans ?_; exact (Decidable.em ((i) = 46 + 6 * (eA g0 233 1).toInt + 2)).elim (fun k288_ => by refine (if_pos k288_).trans ?_; (first | rfl | exact eA_ix (by omega) | omega)) (fun k288_ => by refine (if_neg k288_).trans ?_; exact (Decidable.em ((i) = 46 + 6 * (eA g0 233 1).toInt + 3)).elim (fun k289_ => by refine (if_pos k289_).trans ?_; (first | rfl | exact eA_ix (by omega) | omega)) (fun k289_ => by refine (if_neg k289_).trans ?_; exact (Decidable.em ((i) = 46 + 6 * (eA g0 233 1).toInt + 4)).elim (fun k290_ => by refine (if_pos k290_).trans ?_; (first | rfl | exact eA_ix (by omega) | omega)) (fun k290_ => by refine (if_neg k290_).trans ?_; exact (Decidable.em ((i) = 46 + 6 * (eA g0 233 1).toInt + 5)).elim (fun k291_ => by refine (if_pos k291_).trans ?_; (first | rfl | exact eA_ix (by omega) | omega)) (fun k291_ => by refine (if_neg k291_).trans ?_; refine (eA_ti ((gA_sI))).trans ?_; (first | rfl | exact eA_ix (by omega) | omega)))))))) | (refine ((lw_v592 (i) (by omega) (by omega))).trans ?_; refine (eA_ti ((gA_sI))).trans ?_; (first | rfl | exact eA_ix (by omega) | omega)))) (fun k285_ => by refine Eq.trans ?_ (if_neg (fun z => k285_ z.2)).symm; exact (Decidable.em (i = 46 + 6 * (eA g0 233 1).toInt + 3)).elim (fun k292_ => by refine Eq.trans ?_ (if_pos ⟨kp, k292_⟩).symm; refine (eA_ti ((hF599.2.1 233 (by decide)))).trans ?_; (first | (refine ((hr586.2.2.1 (i) (by omega) (by omega))).trans ?_; refine (eA_ti ((gA_sI))).trans ?_; (first | rfl | exact eA_ix (by omega) | omega)) | (refine ((fq595 (i) (by omega) (by omega))).trans ?_; exact (Decidable.em ((i) = 46 + 6 * (eA g0 233 1).toInt + 0)).elim (fun k293_ => by refine (if_pos k293_).trans ?_; (first | rfl | exact eA_ix (by omega) | omega)) (fun k293_ => by refine (if_neg k293_).trans ?_; exact (Decidable.em ((i) = 46 + 6 * (eA g0 233 1).toInt + 1)).elim (fun k294_ => by refine (if_pos k294_).trans ?_; (first | rfl | exact eA_ix (by omega) | omega)) (fun k294_ => by refine (if_neg k294_).trans ?_; exact (Decidable.em ((i) = 46 + 6 * (eA g0 233 1).toInt + 2)).elim (fun k295_ => by refine (if_pos k295_).trans ?_; (first | rfl | exact eA_ix (by omega) | omega)) (fun k295_ => by refine (if_neg k295_).trans ?_; exact (Decidable.em ((i) = 46 + 6 * (eA g0 233 1).toInt + 3)).elim (fun k296_ => by refine (if_pos k296_).trans ?_; (first | rfl | exact eA_ix (by omega) | omega)) (fun k296_ => by refine (if_neg k296_).trans ?_; exact (Decidable.em ((i) = 46 + 6 * (eA g0 233 1).toInt + 4)).elim (fun k297_ => by refine (if_pos k297_).trans ?_; (first | rfl | exact eA_ix (by omega) | omega)) (fun k297_ => by refine (if_neg k297_).trans ?_; exact (Decidable.em ((i) = 46 + 6 * (eA g0 233 1).toInt + 5)).elim (fun k298_ => by refine (if_pos k298_).trans ?_; (first | rfl | exact eA_ix (by omega) | omega)) (fun k298_ => by refine (if_neg k298_).trans ?_; refine (eA_ti ((gA_sI))).trans ?_; (first | rfl | exact eA_ix (by omega) | omega)))))))) | (refine ((lw_v592 (i) (by omega) (by omega))).trans ?_; refine (eA_ti ((gA_sI))).trans ?_; (first | rfl | exact eA_ix (by omega) | omega)))) (fun k292_ => by refine Eq.trans ?_ (if_neg (fun z => k292_ z.2)).symm; exact (Decidable.em (i = 46 + 6 * (eA g0 233 1).toInt + 4)).elim (fun k299_ => by refine Eq.trans ?_ (if_pos ⟨kp, k299_⟩).symm; refine (eA_ti ((hF599.2.1 233 (by decide)))).trans ?_; (first | (refine ((hr586.2.2.1 (i) (by omega) (by omega))).trans ?_; refine (eA_ti ((gA_sI))).trans ?_; (first | rfl | exact eA_ix (by omega) | omega)) | (refine ((fq595 (i) (by omega) (by omega))).trans ?_; exact (Decidable.em ((i) = 46 + 6 * (eA g0 233 1).toInt + 0)).elim (fun k300_ => by refine (if_pos k300_).trans ?_; (first | rfl | exact eA_ix (by omega) | omega)) (fun k300_ => by refine (if_neg k300_).trans ?_; exact (Decidable.em ((i) = 46 + 6 * (eA g0 233 1).toInt + 1)).elim (fun k301_ => by refine (if_pos k301_).trans ?_; (first | rfl | exact eA_ix (by omega) | omega)) (fun k301_ => by refine (if_neg k301_).trans ?_; exact (Decidable.em ((i) = 46 + 6 * (eA g0 233 1).toInt + 2)).elim (fun k302_ => by refine (if_pos k302_).trans ?_; (first | rfl | exact eA_ix (by omega) | omega)) (fun k302_ => by refine (if_neg k302_).trans ?_; exact (Decidable.em ((i) = 46 + 6 * (eA g0 233 1).toInt + 3)).elim (fun k303_ => by refine (if_pos k303_).trans ?_; (first | rfl | exact eA_ix (by omega) | omega)) (fun k303_ => by refine (if_neg k303_).trans ?_; exact (Decidable.em ((i) = 46 + 6 * (eA g0 233 1).toInt + 4)).elim (fun k304_ => by refine (if_pos k304_).trans ?_; (first | rfl | exact eA_ix (by omega) | omega)) (fun k304_ => by refine (if_neg k304_).trans ?_; exact (Decidable.em ((i) = 46 + 6 * (eA g0 233 1).toInt + 5)).elim (fun k305_ => by refine (if_pos k305_).trans ?_; (first | rfl | exact eA_ix (by omega) | omega)) (fun k305_ => by refine (if_neg k305_).trans ?_; refine (eA_ti ((gA_sI))).trans ?_; (first | rfl | exact eA_ix (by omega) | omega)))))))) | (refine ((lw_v592 (i) (by omega) (by omega))).trans ?_; refine (eA_ti ((gA_sI))).trans ?_; (first | rfl | exact eA_ix (by omega) | omega)))) (fun k299_ => by refine Eq.trans ?_ (if_neg (fun z => k299_ z.2)).symm; exact (Decidable.em (i = 46 + 6 * (eA g0 233 1).toInt + 5)).elim (fun k306_ => by refine Eq.trans ?_ (if_pos ⟨kp, k306_⟩).symm; refine (eA_ti ((hF599.2.1 233 (by decide)))).trans ?_; (first | (refine ((hr586.2.2.1 (i) (by omega) (by omega))).trans ?_; refine (eA_ti ((gA_sI))).trans ?_; (first | rfl | exact eA_ix (by omega) | omega)) | (refine ((fq595 (i) (by omega) (by omega))).trans ?_; exact (Decidable.em ((i) = 46 + 6 * (eA g0 233 1).toInt + 0)).elim (fun k307_ => by refine (if_pos k307_).trans ?_; (first | rfl | exact eA_ix (by omega) | omega)) (fun k307_ => by refine (if_neg k307_).trans ?_; exact (Decidable.em ((i) = 46 + 6 * (eA g0 233 1).toInt + 1)).elim (fun k308_ => by refine (if_pos k308_).trans ?_; (first | rfl | exact eA_ix (by omega) | omega)) (fun k308_ => by refine (if_neg k308_).trans ?_; exact (Decidable.em ((i) = 46 + 6 * (eA g0 233 1).toInt + 2)).elim (fun k309_ => by refine (if_pos k309_).trans ?_; (first | rfl | exact eA_ix (by omega) | omega)) (fun k309_ => by refine (if_neg k309_).trans ?_; exact (Decidable.em ((i) = 46 + 6 * (eA g0 233 1).toInt + 3)).elim (fun k310_ => by refine (if_pos k310_).trans ?_; (first | rfl | exact eA_ix (by omega) | omega)) (fun k310_ => by refine (if_neg k310_).trans ?_; exact (Decidable.em ((i) = 46 + 6 * (eA g0 233 1).toInt + 4)).elim (fun k311_ => by refine (if_pos k311_).trans ?_; (first | rfl | exact eA_ix (by omega) | omega)) (fun k311_ => by refine (if_neg k311_).trans ?_; exact (Decidable.em ((i) = 46 + 6 * (eA g0 233 1).toInt + 5)).elim (fun k312_ => by refine (if_pos k312_).trans ?_; (first | rfl | exact eA_ix (by omega) | omega)) (fun k312_ => by refine (if_neg k312_).trans ?_; refine (eA_ti ((gA_sI))).trans ?_; (first | rfl | exact eA_ix (by omega) | omega)))))))) | (refine ((lw_v592 (i) (by omega) (by omega))).trans ?_; refine (eA_ti ((gA_sI))).trans ?_; (first | rfl | exact eA_ix (by omega) | omega)))) (fun k306_ => by refine Eq.trans ?_ (if_neg (fun z => k306_ z.2)).symm; refine (eA_ti ((hF599.2.1 233 (by decide)))).trans ?_; (first | (refine ((hr586.2.2.1 (i) (by omega) (by omega))).trans ?_; refine (eA_ti ((gA_sI))).trans ?_; (first | rfl | exact eA_ix (by omega) | omega)) | (refine ((fq595 (i) (by omega) (by omega))).trans ?_; exact (Decidable.em ((i) = 46 + 6 * (eA g0 233 1).toInt + 0)).elim (fun k313_ => by refine (if_pos k313_).trans ?_; (first | rfl | exact eA_ix (by omega) | omega)) (fun k313_ => by refine (if_neg k313_).trans ?_; exact (Decidable.em ((i) = 46 + 6 * (eA g0 233 1).toInt + 1)).elim (fun k314_ => by refine (if_pos k314_).trans ?_; (first | rfl | exact eA_ix (by omega) | omega)) (fun k314_ => by refine (if_neg k314_).trans ?_; exact (Decidable.em ((i) = 46 + 6 * (eA g0 233 1).toInt + 2)).elim (fun k315_ => by refine (if_pos k315_).trans ?_; (first | rfl | exact eA_ix (by omega) | omega)) (fun k315_ => by refine (if_neg k315_).trans ?_; exact (Decidable.em ((i) = 46 + 6 * (eA g0 233 1).toInt + 3)).elim (fun k316_ => by refine (if_pos k316_).trans ?_; (first | rfl | exact eA_ix (by omega) | omega)) (fun k316_ => by refine (if_neg k316_).trans ?_; exact (Decidable.em ((i) = 46 + 6 * (eA g0 233 1).toInt + 4)).elim (fun k317_ => by refine (if_pos k317_).trans ?_; (first | rfl | exact eA_ix (by omega) | omega)) (fun k317_ => by refine (if_neg k317_).trans ?_; exact (Decidable.em ((i) = 46 + 6 * (eA g0 233 1).toInt + 5)).elim (fun k318_ => by refine (if_pos k318_).trans ?_; (first | rfl | exact eA_ix (by omega) | omega)) (fun k318_ => by refine (if_neg k318_).trans ?_; refine (eA_ti ((gA_sI))).trans ?_; (first | rfl | exact eA_ix (by omega) | omega)))))))) | (refine ((lw_v592 (i) (by omega) (by omega))).trans ?_; refine (eA_ti ((gA_sI))).trans ?_; (first | rfl | exact eA_ix (by omega) | omega))))))))))⟩⟩
                          · have c579_ : v578.toInt = 8 := en_i_ne_f c579
                            refine At.enter rfl ?_
                            refine r_aload_n rfl ?_
                            refine r_bipush (-5) rfl ?_
                            refine r_callV 64 rfl [.ref 231, .int (-5)] [] (Nat.le_of_ble_eq_true rfl) rfl (T_X11_tell_231 _ hI281 (-5) (by decide)) ?_
                            rintro _ _ ⟨g614, rfl, hI615, hF616, v617, rfl, hr618⟩
                            refine At.sti ?_
                            have hF619 := Fr.tr hF282 hF616 rfl rfl
                            have zv620 : ((-5) : Int32).toInt = (-5) := rfl
                            refine At.enter rfl ?_
                            refine r_ireti ?_
                            have x621 := HI.eqA hI615 (p := 233) (j := 1) ((((eA_c (hF616.2.1 233 (by decide))).trans (eA_c gA_sI)).trans hv578))
                            have x622 := HI.eqA hI615 (p := 233) (j := 0) ((((eA_c (hF616.2.1 233 (by decide))).trans (eA_c gA_sI)).trans hv480))
                            obtain ⟨v623, hv623⟩ : ∃ v, eA g0 233 4 = v := ⟨_, rfl⟩
                            have wv623 := HI.t4 hI0
                            rw [hv623] at wv623
                            have tv623 := congrArg Int32.toInt hv623
                            have x624 := HI.eqA hI615 (p := 233) (j := 4) ((((eA_c (hF616.2.1 233 (by decide))).trans (eA_c gA_sI)).trans hv623))
                            obtain ⟨v625, hv625⟩ : ∃ v, eA g0 233 5 = v := ⟨_, rfl⟩
                            have wv625 := HI.t5 hI0
                            rw [hv625] at wv625
                            have tv625 := congrArg Int32.toInt hv625
                            have x626 := HI.eqA hI615 (p := 233) (j := 5) ((((eA_c (hF616.2.1 233 (by decide))).trans (eA_c gA_sI)).trans hv625))
                            obtain ⟨v627, hv627⟩ : ∃ v, eA g0 233 6 = v := ⟨_, rfl⟩
                            have wv627 := HI.t6 hI0
                            rw [hv627] at wv627
                            have tv627 := congrArg Int32.toInt hv627
                            have x628 := HI.eqA hI615 (p := 233) (j := 6) ((((eA_c (hF616.2.1 233 (by decide))).trans (eA_c gA_sI)).trans hv627))
                            have x629 := HI.eqA hI0 (p := 233) (j := 1) (hv578)
                            have x630 := HI.eqA hI0 (p := 233) (j := 0) (hv480)
                            have x631 := HI.eqA hI0 (p := 233) (j := 0) (hv480)
                            have x632 := HI.eqA hI0 (p := 233) (j := 4) (hv623)
                            have x633 := HI.eqA hI0 (p := 233) (j := 5) (hv625)
                            have x634 := HI.eqA hI0 (p := 233) (j := 6) (hv627)
                            exact ⟨_, rfl, hI615, hF619, _, rfl, by omega, ⟨⟨by omega, by omega, by omega, by omega, by omega, by omega, by omega, by omega⟩, (by intro i i0 i1; refine (eA_ti (((hF616.2.1 233 (by decide)).trans (gA_sI)))).trans ?_; (first | rfl | exact eA_ix (by omega) | omega)), (by intro i i0 i1; refine (eA_ti (((hF616.2.1 233 (by decide)).trans (gA_sI)))).trans ?_; (first | rfl | exact eA_ix (by omega) | omega)), (by have kn : ¬ ((1 ≤ a1.toInt ∧ a1.toInt ≤ 9 ∧ 0 ≤ a4.toInt ∧ a4.toInt ≤ 99 ∧ 0 ≤ a5.toInt ∧ a5.toInt ≤ 9 ∧ 0 ≤ a6.toInt ∧ a6.toInt ≤ 9999) ∧ (0 ≤ a2.toInt ∧ a2.toInt < (eA g0 233 0).toInt ∧ 0 ≤ a3.toInt ∧ a3.toInt < (eA g0 233 0).toInt) ∧ (eA g0 233 1).toInt < 8) := (by omega); intro i i0 i1; refine Eq.trans ?_ (if_neg (show ¬ (((1 ≤ a1.toInt ∧ a1.toInt ≤ 9 ∧ 0 ≤ a4.toInt ∧ a4.toInt ≤ 99 ∧ 0 ≤ a5.toInt ∧ a5.toInt ≤ 9 ∧ 0 ≤ a6.toInt ∧ a6.toInt ≤ 9999) ∧ (0 ≤ a2.toInt ∧ a2.toInt < (eA g0 233 0).toInt ∧ 0 ≤ a3.toInt ∧ a3.toInt < (eA g0 233 0).toInt) ∧ (eA g0 233 1).toInt < 8) ∧ i = 46 + 6 * (eA g0 233 1).toInt + 0) from fun z => kn z.1)).symm; refine Eq.trans ?_ (if_neg (show ¬ (((1 ≤ a1.toInt ∧ a1.toInt ≤ 9 ∧ 0 ≤ a4.toInt ∧ a4.toInt ≤ 99 ∧ 0 ≤ a5.toInt ∧ a5.toInt ≤ 9 ∧ 0 ≤ a6.toInt ∧ a6.toInt ≤ 9999) ∧ (0 ≤ a2.toInt ∧ a2.toInt < (eA g0 233 0).toInt ∧ 0 ≤ a3.toInt ∧ a3.toInt < (eA g0 233 0).toInt) ∧ (eA g0 233 1).toInt < 8) ∧ i = 46 + 6 * (eA g0 233 1).toInt + 1) from fun z => kn z.1)).symm; refine Eq.trans ?_ (if_neg (show ¬ (((1 ≤ a1.toInt ∧ a1.toInt ≤ 9 ∧ 0 ≤ a4.toInt ∧ a4.toInt ≤ 99 ∧ 0 ≤ a5.toInt ∧ a5.toInt ≤ 9 ∧ 0 ≤ a6.toInt ∧ a6.toInt ≤ 9999) ∧ (0 ≤ a2.toInt ∧ a2.toInt < (eA g0 233 0).toInt ∧ 0 ≤ a3.toInt ∧ a3.toInt < (eA g0 233 0).toInt) ∧ (eA g0 233 1).toInt < 8) ∧ i = 46 + 6 * (eA g0 233 1).toInt + 2) from fun z => kn z.1)).symm; refine Eq.trans ?_ (if_neg (show ¬ (((1 ≤ a1.toInt ∧ a1.toInt ≤ 9 ∧ 0 ≤ a4.toInt ∧ a4.toInt ≤ 99 ∧ 0 ≤ a5.toInt ∧ a5.toInt ≤ 9 ∧ 0 ≤ a6.toInt ∧ a6.toInt ≤ 9999) ∧ (0 ≤ a2.toInt ∧ a2.toInt < (eA g0 233 0).toInt ∧ 0 ≤ a3.toInt ∧ a3.toInt < (eA g0 233 0).toInt) ∧ (eA g0 233 1).toInt < 8) ∧ i = 46 + 6 * (eA g0 233 1).toInt + 3) from fun z => kn z.1)).symm; refine Eq.trans ?_ (if_neg (show ¬ (((1 ≤ a1.toInt ∧ a1.toInt ≤ 9 ∧ 0 ≤ a4.toInt ∧ a4.toInt ≤ 99 ∧ 0 ≤ a5.toInt ∧ a5.toInt ≤ 9 ∧ 0 ≤ a6.toInt ∧ a6.toInt ≤ 9999) ∧ (0 ≤ a2.toInt ∧ a2.toInt < (eA g0 233 0).toInt ∧ 0 ≤ a3.toInt ∧ a3.toInt < (eA g0 233 0).toInt) ∧ (eA g0 233 1).toInt < 8) ∧ i = 46 + 6 * (eA g0 233 1).toInt + 4) from fun z => kn z.1)).symm; refine Eq.trans ?_ (if_neg (show ¬ (((1 ≤ a1.toInt ∧ a1.toInt ≤ 9 ∧ 0 ≤ a4.toInt ∧ a4.toInt ≤ 99 ∧ 0 ≤ a5.toInt ∧ a5.toInt ≤ 9 ∧ 0 ≤ a6.toInt ∧ a6.toInt ≤ 9999) ∧ (0 ≤ a2.toInt ∧ a2.toInt < (eA g0 233 0).toInt ∧ 0 ≤ a3.toInt ∧ a3.toInt < (eA g0 233 0).toInt) ∧ (eA g0 233 1).toInt < 8) ∧ i = 46 + 6 * (eA g0 233 1).toInt + 5) from fun z => kn z.1)).symm; refine (eA_ti (((hF616.2.1 233 (by decide)).trans (gA_sI)))).trans ?_; (first | rfl | exact eA_ix (by omega) | omega))⟩⟩
