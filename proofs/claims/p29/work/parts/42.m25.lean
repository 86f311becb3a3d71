def F_X11_addLoad_231 : List (Nat × Nat) := []
def A_X11_addLoad_231 : List Nat := [233]
set_option maxRecDepth 100000 in
set_option maxHeartbeats 4000000 in
theorem T_X11_addLoad_231 (d : Nat) {N : Nat} {g0 : List en_E} (hI0 : HI g0) (a1 : Int32) (h_a1 : 1 ≤ a1.toInt ∧ a1.toInt ≤ 9) (a2 : Int32) (h_a2 : 0 ≤ a2.toInt ∧ a2.toInt ≤ 11) (a3 : Int32) (h_a3 : 0 ≤ a3.toInt ∧ a3.toInt ≤ 11) (a4 : Int32) (h_a4 : 0 ≤ a4.toInt ∧ a4.toInt ≤ 99) (a5 : Int32) (h_a5 : 0 ≤ a5.toInt ∧ a5.toInt ≤ 9) (a6 : Int32) (h_a6 : 0 ≤ a6.toInt ∧ a6.toInt ≤ 9999) (h1 : (eA g0 233 1).toInt < 8) (h2 : a2.toInt < (eA g0 233 0).toInt) (h3 : a3.toInt < (eA g0 233 0).toInt) : Ev (d + 1) 177 [.ref 231, .int a1, .int a2, .int a3, .int a4, .int a5, .int a6] (g0, N) (fun w h' => ∃ g', h' = (g', N) ∧ HI g' ∧ Fr F_X11_addLoad_231 A_X11_addLoad_231 g0 g' ∧ w = none ∧ ((∀ i : Int, 0 ≤ i → i < 46 → i ≠ 1 → eA g' 233 i = eA g0 233 i) ∧ (eA g' 233 1).toInt = (eA g0 233 1).toInt + 1 ∧ (∀ i : Int, 94 ≤ i → i < 5510 → (eA g' 233 (i)).toInt = (eA g0 233 (i)).toInt) ∧ (∀ i : Int, 46 ≤ i → i < 94 → (eA g' 233 (i)).toInt = if i = 46 + 6 * (eA g0 233 1).toInt + 0 then a1.toInt else if i = 46 + 6 * (eA g0 233 1).toInt + 1 then a2.toInt else if i = 46 + 6 * (eA g0 233 1).toInt + 2 then a3.toInt else if i = 46 + 6 * (eA g0 233 1).toInt + 3 then a4.toInt else if i = 46 + 6 * (eA g0 233 1).toInt + 4 then a5.toInt else if i = 46 + 6 * (eA g0 233 1).toInt + 5 then a6.toInt else (eA g0 233 (i)).toInt))) := by
  have hF0 : Fr F_X11_addLoad_231 A_X11_addLoad_231 g0 g0 := Fr.rf
  refine Ev.mk rfl rfl ⟨Nat.le_of_ble_eq_true rfl, Or.inr (q_rc hI0.1 kx_231 rfl)⟩ ?_
  show At _ none _ _ (0, [(0, .ref 231), (1, .int a1), (2, .int a2), (3, .int a3), (4, .int a4), (5, .int a5), (6, .int a6)], [], (_, _)) _
  refine At.enter rfl ?_
  refine r_bipush 46 rfl ?_
  refine r_bipush 6 rfl ?_
  refine r_aload_n rfl ?_
  refine q_getR (Sh.ref hI0.1 kx_231 rfl) ?_
  refine r_iconst 1 rfl ?_
  obtain ⟨v59, hv59⟩ : ∃ v, eA g0 233 1 = v := ⟨_, rfl⟩
  have tv59 := congrArg Int32.toInt hv59
  have wv59 := HI.t1 hI0
  rw [hv59] at wv59
  have uv59 := h1; rw [hv59] at uv59
  refine q_iald (Sh.arr hI0.1 ka_233) 1 rfl (by decide) v59 hv59 ?_
  refine q_imul (6 * v59.toInt) rfl (by omega) (fun v60 hv60 => ?_)
  refine q_iadd (46 + v60.toInt) rfl (by omega) (fun v61 hv61 => ?_)
  refine r_istore ([(7, .int v61), (0, .ref 231), (1, .int a1), (2, .int a2), (3, .int a3), (4, .int a4), (5, .int a5), (6, .int a6)]) rfl ?_
  refine r_aload_n rfl ?_
  refine q_getR (Sh.ref hI0.1 kx_231 rfl) ?_
  refine r_iload rfl ?_
  refine r_iload_n rfl ?_
  refine q_iast (Sh.arr hI0.1 ka_233) ((6 * v59.toInt + 46)) (by omega) (by omega) ?_
  have hI62 := HI.wl hI0 (j := (6 * v59.toInt + 46)) (v := a1) (v59.toInt) 0 (by omega) (by decide) (by omega) (by omega)
  have hF63 := Fr.wA (p := 233) (j := (6 * v59.toInt + 46)) (v := a1) hF0 rfl
  refine r_aload_n rfl ?_
  refine q_getR (Sh.ref hI62.1 kx_231 rfl) ?_
  refine r_iload rfl ?_
  refine r_iconst 1 rfl ?_
  refine q_iadd (v61.toInt + 1) rfl (by omega) (fun v64 hv64 => ?_)
  refine r_iload_n rfl ?_
  refine q_iast (Sh.arr hI62.1 ka_233) ((6 * v59.toInt + 47)) (by omega) (by omega) ?_
  obtain ⟨v67, hv67⟩ : ∃ v, eA g0 233 0 = v := ⟨_, rfl⟩
  have tv67 := congrArg Int32.toInt hv67
  have wv67 := HI.t0 hI0
  rw [hv67] at wv67
  have uv67 := h2; rw [hv67] at uv67
  have wv67_ := h3; rw [hv67] at wv67_
  have tv67 := congrArg Int32.toInt hv67
  have x68 := HI.eqA hI62 (p := 233) (j := 0) (((eA_sA_ne hI0.1 ka_233 (by first | decide | omega) (by first | decide | omega) (by first | decide | omega)).trans hv67))
  have hI65 := HI.wl hI62 (j := (6 * v59.toInt + 47)) (v := a2) (v59.toInt) 1 (by omega) (by decide) (by omega) (by omega)
  have hF66 := Fr.wA (p := 233) (j := (6 * v59.toInt + 47)) (v := a2) hF63 rfl
  refine r_aload_n rfl ?_
  refine q_getR (Sh.ref hI65.1 kx_231 rfl) ?_
  refine r_iload rfl ?_
  refine r_iconst 2 rfl ?_
  refine q_iadd (v61.toInt + 2) rfl (by omega) (fun v69 hv69 => ?_)
  refine r_iload_n rfl ?_
  refine q_iast (Sh.arr hI65.1 ka_233) ((6 * v59.toInt + 48)) (by omega) (by omega) ?_
  have x72 := HI.eqA hI65 (p := 233) (j := 0) ((((eA_sA_ne hI62.1 ka_233 (by first | decide | omega) (by first | decide | omega) (by first | decide | omega)).trans (eA_sA_ne hI0.1 ka_233 (by first | decide | omega) (by first | decide | omega) (by first | decide | omega))).trans hv67))
  have hI70 := HI.wl hI65 (j := (6 * v59.toInt + 48)) (v := a3) (v59.toInt) 2 (by omega) (by decide) (by omega) (by omega)
  have hF71 := Fr.wA (p := 233) (j := (6 * v59.toInt + 48)) (v := a3) hF66 rfl
  refine r_aload_n rfl ?_
  refine q_getR (Sh.ref hI70.1 kx_231 rfl) ?_
  refine r_iload rfl ?_
  refine r_iconst 3 rfl ?_
  refine q_iadd (v61.toInt + 3) rfl (by omega) (fun v73 hv73 => ?_)
  refine r_iload rfl ?_
  refine q_iast (Sh.arr hI70.1 ka_233) ((6 * v59.toInt + 49)) (by omega) (by omega) ?_
  have hI74 := HI.wl hI70 (j := (6 * v59.toInt + 49)) (v := a4) (v59.toInt) 3 (by omega) (by decide) (by omega) (by omega)
  have hF75 := Fr.wA (p := 233) (j := (6 * v59.toInt + 49)) (v := a4) hF71 rfl
  refine r_aload_n rfl ?_
  refine q_getR (Sh.ref hI74.1 kx_231 rfl) ?_
  refine r_iload rfl ?_
  refine r_iconst 4 rfl ?_
  refine q_iadd (v61.toInt + 4) rfl (by omega) (fun v76 hv76 => ?_)
  refine r_iload rfl ?_
  refine q_iast (Sh.arr hI74.1 ka_233) ((6 * v59.toInt + 50)) (by omega) (by omega) ?_
  have hI77 := HI.wl hI74 (j := (6 * v59.toInt + 50)) (v := a5) (v59.toInt) 4 (by omega) (by decide) (by omega) (by omega)
  have hF78 := Fr.wA (p := 233) (j := (6 * v59.toInt + 50)) (v := a5) hF75 rfl
  refine r_aload_n rfl ?_
  refine q_getR (Sh.ref hI77.1 kx_231 rfl) ?_
  refine r_iload rfl ?_
  refine r_iconst 5 rfl ?_
  refine q_iadd (v61.toInt + 5) rfl (by omega) (fun v79 hv79 => ?_)
  refine r_iload rfl ?_
  refine q_iast (Sh.arr hI77.1 ka_233) ((6 * v59.toInt + 51)) (by omega) (by omega) ?_
  have hI80 := HI.wl hI77 (j := (6 * v59.toInt + 51)) (v := a6) (v59.toInt) 5 (by omega) (by decide) (by omega) (by omega)
  have hF81 := Fr.wA (p := 233) (j := (6 * v59.toInt + 51)) (v := a6) hF78 rfl
  refine r_aload_n rfl ?_
  refine q_getR (Sh.ref hI80.1 kx_231 rfl) ?_
  refine r_iconst 1 rfl ?_
  refine r_dup2 ⟨rfl, rfl⟩ ?_
  refine q_iald (Sh.arr hI80.1 ka_233) 1 rfl (by decide) v59 (((eA_sA_ne hI77.1 ka_233 (by first | decide | omega) (by first | decide | omega) (by first | decide | omega)).trans ((eA_sA_ne hI74.1 ka_233 (by first | decide | omega) (by first | decide | omega) (by first | decide | omega)).trans ((eA_sA_ne hI70.1 ka_233 (by first | decide | omega) (by first | decide | omega) (by first | decide | omega)).trans ((eA_sA_ne hI65.1 ka_233 (by first | decide | omega) (by first | decide | omega) (by first | decide | omega)).trans ((eA_sA_ne hI62.1 ka_233 (by first | decide | omega) (by first | decide | omega) (by first | decide | omega)).trans (eA_sA_ne hI0.1 ka_233 (by first | decide | omega) (by first | decide | omega) (by first | decide | omega))))))).trans hv59) ?_
  refine r_iconst 1 rfl ?_
  refine q_iadd (v59.toInt + 1) rfl (by omega) (fun v82 hv82 => ?_)
  refine q_iast (Sh.arr hI80.1 ka_233) (1) rfl (by decide) ?_
  have x85 := HI.eqA hI80 (p := 233) (j := 0) ((((eA_sA_ne hI77.1 ka_233 (by first | decide | omega) (by first | decide | omega) (by first | decide | omega)).trans ((eA_sA_ne hI74.1 ka_233 (by first | decide | omega) (by first | decide | omega) (by first | decide | omega)).trans ((eA_sA_ne hI70.1 ka_233 (by first | decide | omega) (by first | decide | omega) (by first | decide | omega)).trans ((eA_sA_ne hI65.1 ka_233 (by first | decide | omega) (by first | decide | omega) (by first | decide | omega)).trans ((eA_sA_ne hI62.1 ka_233 (by first | decide | omega) (by first | decide | omega) (by first | decide | omega)).trans (eA_sA_ne hI0.1 ka_233 (by first | decide | omega) (by first | decide | omega) (by first | decide | omega))))))).trans hv67))
  have x86 := HI.eqA hI80 (p := 233) (j := 1) ((((eA_sA_ne hI77.1 ka_233 (by first | decide | omega) (by first | decide | omega) (by first | decide | omega)).trans ((eA_sA_ne hI74.1 ka_233 (by first | decide | omega) (by first | decide | omega) (by first | decide | omega)).trans ((eA_sA_ne hI70.1 ka_233 (by first | decide | omega) (by first | decide | omega) (by first | decide | omega)).trans ((eA_sA_ne hI65.1 ka_233 (by first | decide | omega) (by first | decide | omega) (by first | decide | omega)).trans ((eA_sA_ne hI62.1 ka_233 (by first | decide | omega) (by first | decide | omega) (by first | decide | omega)).trans (eA_sA_ne hI0.1 ka_233 (by first | decide | omega) (by first | decide | omega) (by first | decide | omega))))))).trans hv59))
  have yv87 := HI.lt hI80
  have hI83 := HI.wt hI80 (j := 1) (v := v82) (by omega) (by omega)
  have hF84 := Fr.wA (p := 233) (j := 1) (v := v82) hF81 rfl
  refine r_vret ?_
  have x88 := HI.eqA hI83 (p := 233) (j := 1) ((eA_sA_eq hI80.1 ka_233 (by first | rfl | omega) (by first | decide | omega) (by first | decide | omega)))
  have x89 := HI.eqA hI0 (p := 233) (j := 1) (hv59)
  have x90 := HI.eqA hI0 (p := 233) (j := 0) (hv67)
  exact ⟨_, rfl, hI83, hF84, rfl, ⟨(fun i i0 i1 i2 => ((eA_sA_ne (i := i) hI80.1 ka_233 (by omega) (by first | decide | omega) (by omega)).trans ((eA_sA_ne (i := i) hI77.1 ka_233 (by omega) (by first | decide | omega) (by omega)).trans ((eA_sA_ne (i := i) hI74.1 ka_233 (by omega) (by first | decide | omega) (by omega)).trans ((eA_sA_ne (i := i) hI70.1 ka_233 (by omega) (by first | decide | omega) (by omega)).trans ((eA_sA_ne (i := i) hI65.1 ka_233 (by omega) (by first | decide | omega) (by omega)).trans ((eA_sA_ne (i := i) hI62.1 ka_233 (by omega) (by first | decide | omega) (by omega)).trans (eA_sA_ne (i := i) hI0.1 ka_233 (by omega) (by first | decide | omega) (by omega))))))))), by omega, (by intro i i0 i1; exact (Decidable.em (i = 1)).elim (fun k171_ => by refine (eA_eqT hI80.1 ka_233 k171_ (by first | decide | omega) (by first | decide | omega)).trans ?_; (first | (with_reducible rfl) | (omega) | (rfl))) (fun k171_ => by refine (eA_neT hI80.1 ka_233 k171_ (by first | decide | omega) (by omega)).trans ?_; exact (Decidable.em (i = (6 * v59.toInt + 51))).elim (fun k172_ => by refine (eA_eqT hI77.1 ka_233 k172_ (by first | decide | omega) (by first | decide | omega)).trans ?_; (first | (with_reducible rfl) | (omega) | (rfl))) (fun k172_ => by refine (eA_neT hI77.1 ka_233 k172_ (by first | decide | omega) (by omega)).trans ?_; exact (Decidable.em (i = (6 * v59.toInt + 50))).elim (fun k173_ => by refine (eA_eqT hI74.1 ka_233 k173_ (by first | decide | omega) (by first | decide | omega)).trans ?_; (first | (with_reducible rfl) | (omega) | (rfl))) (fun k173_ => by refine (eA_neT hI74.1 ka_233 k173_ (by first | decide | omega) (by omega)).trans ?_; exact (Decidable.em (i = (6 * v59.toInt + 49))).elim (fun k174_ => by refine (eA_eqT hI70.1 ka_233 k174_ (by first | decide | omega) (by first | decide | omega)).trans ?_; (first | (with_reducible rfl) | (omega) | (rfl))) (fun k174_ => by refine (eA_neT hI70.1 ka_233 k174_ (by first | decide | omega) (by omega)).trans ?_; exact (Decidable.em (i = (6 * v59.toInt + 48))).elim (fun k175_ => by refine (eA_eqT hI65.1 ka_233 k175_ (by first | decide | omega) (by first | decide | omega)).trans ?_; (first | (with_reducible rfl) | (omega) | (rfl))) (fun k175_ => by refine (eA_neT hI65.1 ka_233 k175_ (by first | decide | omega) (by omega)).trans ?_; exact (Decidable.em (i = (6 * v59.toInt + 47))).elim (fun k176_ => by refine (eA_eqT hI62.1 ka_233 k176_ (by first | decide | omega) (by first | decide | omega)).trans ?_; (first | (with_reducible rfl) | (omega) | (rfl))) (fun k176_ => by refine (eA_neT hI62.1 ka_233 k176_ (by first | decide | omega) (by omega)).trans ?_; exact (Decidable.em (i = (6 * v59.toInt + 46))).elim (fun k177_ => by refine (eA_eqT hI0.1 ka_233 k177_ (by first | decide | omega) (by first | decide | omega)).trans ?_; (first | (with_reducible rfl) | (omega) | (rfl))) (fun k177_ => by refine (eA_neT hI0.1 ka_233 k177_ (by first | decide | omega) (by omega)).trans ?_; (first | with_reducible rfl | omega | exact eA_ix (by omega) | rfl))))))))), (by intro i i0 i1; exact (Decidable.em (i = 46 + 6 * (eA g0 233 1).toInt + 0)).elim (fun k178_ => by refine Eq.trans ?_ (if_pos k178_).symm; exact (Decidable.em (i = 1)).elim (fun k179_ => by refine (eA_eqT hI80.1 ka_233 k179_ (by first | decide | omega) (by first | decide | omega)).trans ?_; (first | (with_reducible rfl) | (omega) | (rfl))) (fun k179_ => by refine (eA_neT hI80.1 ka_233 k179_ (by first | decide | omega) (by omega)).trans ?_; exact (Decidable.em (i = (6 * v59.toInt + 51))).elim (fun k180_ => by refine (eA_eqT hI77.1 ka_233 k180_ (by first | decide | omega) (by first | decide | omega)).trans ?_; (first | (with_reducible rfl) | (omega) | (rfl))) (fun k180_ => by refine (eA_neT hI77.1 ka_233 k180_ (by first | decide | omega) (by omega)).trans ?_; exact (Decidable.em (i = (6 * v59.toInt + 50))).elim (fun k181_ => by refine (eA_eqT hI74.1 ka_233 k181_ (by first | decide | omega) (by first | decide | omega)).trans ?_; (first | (with_reducible rfl) | (omega) | (rfl))) (fun k181_ => by refine (eA_neT hI74.1 ka_233 k181_ (by first | decide | omega) (by omega)).trans ?_; exact (Decidable.em (i = (6 * v59.toInt + 49))).elim (fun k182_ => by refine (eA_eqT hI70.1 ka_233 k182_ (by first | decide | omega) (by first | decide | omega)).trans ?_; (first | (with_reducible rfl) | (omega) | (rfl))) (fun k182_ => by refine (eA_neT hI70.1 ka_233 k182_ (by first | decide | omega) (by omega)).trans ?_; exact (Decidable.em (i = (6 * v59.toInt + 48))).elim (fun k183_ => by refine (eA_eqT hI65.1 ka_233 k183_ (by first | decide | omega) (by first | decide | omega)).trans ?_; (first | (with_reducible rfl) | (omega) | (rfl))) (fun k183_ => by refine (eA_neT hI65.1 ka_233 k183_ (by first | decide | omega) (by omega)).trans ?_; exact (Decidable.em (i = (6 * v59.toInt + 47))).elim (fun k184_ => by refine (eA_eqT hI62.1 ka_233 k184_ (by first | decide | omega) (by first | decide | omega)).trans ?_; (first | (with_reducible rfl) | (omega) | (rfl))) (fun k184_ => by refine (eA_neT hI62.1 ka_233 k184_ (by first | decide | omega) (by omega)).trans ?_; exact (Decidable.em (i = (6 * v59.toInt + 46))).elim (fun k185_ => by refine (eA_eqT hI0.1 ka_233 k185_ (by first | decide | omega) (by first | decide | omega)).trans ?_; (first | (with_reducible rfl) | (omega) | (rfl))) (fun k185_ => by refine (eA_neT hI0.1 ka_233 k185_ (by first | decide | omega) (by omega)).trans ?_; (first | with_reducible rfl | omega | exact eA_ix (by omega) | rfl))))))))) (fun k178_ => by refine Eq.trans ?_ (if_neg k178_).symm; exact (Decidable.em (i = 46 + 6 * (eA g0 233 1).toInt + 1)).elim (fun k186_ => by refine Eq.trans ?_ (if_pos k186_).symm; exact (Decidable.em (i = 1)).elim (fun k187_ => by refine (eA_eqT hI80.1 ka_233 k187_ (by first | decide | omega) (by first | decide | omega)).trans ?_; (first | (with_reducible rfl) | (omega) | (rfl))) (fun k187_ => by refine (eA_neT hI80.1 ka_233 k187_ (by first | decide | omega) (by omega)).trans ?_; exact (Decidable.em (i = (6 * v59.toInt + 51))).elim (fun k188_ => by refine (eA_eqT hI77.1 ka_233 k188_ (by first | decide | omega) (by first | decide | omega)).trans ?_; (first | (with_reducible rfl) | (omega) | (rfl))) (fun k188_ => by refine (eA_neT hI77.1 ka_233 k188_ (by first | decide | omega) (by omega)).trans ?_; exact (Decidable.em (i = (6 * v59.toInt + 50))).elim (fun k189_ => by refine (eA_eqT hI74.1 ka_233 k189_ (by first | decide | omega) (by first | decide | omega)).trans ?_; (first | (with_reducible rfl) | (omega) | (rfl))) (fun k189_ => by refine (eA_neT hI74.1 ka_233 k189_ (by first | decide | omega) (by omega)).trans ?_; exact (Decidable.em (i = (6 * v59.toInt + 49))).elim (fun k190_ => by refine (eA_eqT hI70.1 ka_233 k190_ (by first | decide | omega) (by first | decide | omega)).trans ?_; (first | (with_reducible rfl) | (omega) | (rfl))) (fun k190_ => by refine (eA_neT hI70.1 ka_233 k190_ (by first | decide | omega) (by omega)).trans ?_; exact (Decidable.em (i = (6 * v59.toInt + 48))).elim (fun k191_ => by refine (eA_eqT hI65.1 ka_233 k191_ (by first | decide | omega) (by first | decide | omega)).trans ?_; (first | (with_reducible rfl) | (omega) | (rfl))) (fun k191_ => by refine (eA_neT hI65.1 ka_233 k191_ (by first | decide | omega) (by omega)).trans ?_; exact (Decidable.em (i = (6 * v59.toInt + 47))).elim (fun k192_ => by refine (eA_eqT hI62.1 ka_233 k192_ (by first | decide | omega) (by first | decide | omega)).trans ?_; (first | (with_reducible rfl) | (omega) | (rfl))) (fun k192_ => by refine (eA_neT hI62.1 ka_233 k192_ (by first | decide | omega) (by omega)).trans ?_; exact (Decidable.em (i = (6 * v59.toInt + 46))).elim (fun k193_ => by refine (eA_eqT hI0.1 ka_233 k193_ (by first | decide | omega) (by first | decide | omega)).trans ?_; (first | (with_reducible rfl) | (omega) | (rfl))) (fun k193_ => by refine (eA_neT hI0.1 ka_233 k193_ (by first | decide | omega) (by omega)).trans ?_; (first | with_reducible rfl | omega | exact eA_ix (by omega) | rfl))))))))) (fun k186_ => by refine Eq.trans ?_ (if_neg k186_).symm; exact (Decidable.em (i = 46 + 6 * (eA g0 233 1).toInt + 2)).elim (fun k194_ => by refine Eq.trans ?_ (if_pos k194_).symm; exact (Decidable.em (i = 1)).elim (fun k195_ => by refine (eA_eqT hI80.1 ka_233 k195_ (by first | decide | omega) (by first | decide | omega)).trans ?_; (first | (with_reducible rfl) | (omega) | (rfl))) (fun k195_ => by refine (eA_neT hI80.1 ka_233 k195_ (by first | decide | omega) (by omega)).trans ?_; exact (Decidable.em (i = (6 * v59.toInt + 51))).elim (fun k196_ => by refine (eA_eqT hI77.1 ka_233 k196_ (by first | decide | omega) (by first | decide | omega)).trans ?_; (first | (with_reducible rfl) | (omega) | (rfl))) (fun k196_ => by refine (eA_neT hI77.1 ka_233 k196_ (by first | decide | omega) (by omega)).trans ?_; exact (Decidable.em (i = (6 * v59.toInt + 50))).elim (fun k197_ => by refine (eA_eqT hI74.1 ka_233 k197_ (by first | decide | omega) (by first | decide | omega)).trans ?_; (first | (with_reducible rfl) | (omega) | (rfl))) (fun k197_ => by refine (eA_neT hI74.1 ka_233 k197_ (by first | decide | omega) (by omega)).trans ?_; exact (Decidable.em (i = (6 * v59.toInt + 49))).elim (fun k198_ => by refine (eA_eqT hI70.1 ka_233 k198_ (by first | decide | omega) (by first | decide | omega)).trans ?_; (first | (with_reducible rfl) | (omega) | (rfl))) (fun k198_ => by refine (eA_neT hI70.1 ka_233 k198_ (by first | decide | omega) (by omega)).trans ?_; exact (Decidable.em (i = (6 * v59.toInt + 48))).elim (fun k199_ => by refine (eA_eqT hI65.1 ka_233 k199_ (by first | decide | omega) (by first | decide | omega)).trans ?_; (first | (with_reducible rfl) | (omega) | (rfl))) (fun k199_ => by refine (eA_neT hI65.1 ka_233 k199_ (by first | decide | omega) (by omega)).trans ?_; exact (Decidable.em (i = (6 * v59.toInt + 47))).elim (fun k200_ => by refine (eA_eqT hI62.1 ka_233 k200_ (by first | decide | omega) (by first | decide | omega)).trans ?_; (first | (with_reducible rfl) | (omega) | (rfl))) (fun k200_ => by refine (eA_neT hI62.1 ka_233 k200_ (by first | decide | omega) (by omega)).trans ?_; exact (Decidable.em (i = (6 * v59.toInt + 46))).elim (fun k201_ => by refine (eA_eqT hI0.1 ka_233 k201_ (by first | decide | omega) (by first | decide | omega)).trans ?_; (first | (with_reducible rfl) | (omega) | (rfl))) (fun k201_ => by refine (eA_neT hI0.1 ka_233 k201_ (by first | decide | omega) (by omega)).trans ?_; (first | with_reducible rfl | omega | exact eA_ix (by omega) | rfl))))))))) (fun k194_ => by refine Eq.trans ?_ (if_neg k194_).symm; exact (Decidable.em (i = 46 + 6 * (eA g0 233 1).toInt + 3)).elim (fun k202_ => by refine Eq.trans ?_ (if_pos k202_).symm; exact (Decidable.em (i = 1)).elim (fun k203_ => by refine (eA_eqT hI80.1 ka_233 k203_ (by first | decide | omega) (by first | decide | omega)).trans ?_; (first | (with_reducible rfl) | (omega) | (rfl))) (fun k203_ => by refine (eA_neT hI80.1 ka_233 k203_ (by first | decide | omega) (by omega)).trans ?_; exact (Decidable.em (i = (6 * v59.toInt + 51))).elim (fun k204_ => by refine (eA_eqT hI77.1 ka_233 k204_ (by first | decide | omega) (by first | decide | omega)).trans ?_; (first | (with_reducible rfl) | (omega) | (rfl))) (fun k204_ => by refine (eA_neT hI77.1 ka_233 k204_ (by first | decide | omega) (by omega)).trans ?_; exact (Decidable.em (i = (6 * v59.toInt + 50))).elim (fun k205_ => by refine (eA_eqT hI74.1 ka_233 k205_ (by first | decide | omega) (by first | decide | omega)).trans ?_; (first | (with_reducible rfl) | (omega) | (rfl))) (fun k205_ => by refine (eA_neT hI74.1 ka_233 k205_ (by first | decide | omega) (by omega)).trans ?_; exact (Decidable.em (i = (6 * v59.toInt + 49))).elim (fun k206_ => by refine (eA_eqT hI70.1 ka_233 k206_ (by first | decide | omega) (by first | decide | omega)).trans ?_; (first | (with_reducible rfl) | (omega) | (rfl))) (fun k206_ => by refine (eA_neT hI70.1 ka_233 k206_ (by first | decide | omega) (by omega)).trans ?_; exact (Decidable.em (i = (6 * v59.toInt + 48))).elim (fun k207_ => by refine (eA_eqT hI65.1 ka_233 k207_ (by first | decide | omega) (by first | decide | omega)).trans ?_; (first | (with_reducible rfl) | (omega) | (rfl))) (fun k207_ => by refine (eA_neT hI65.1 ka_233 k207_ (by first | decide | omega) (by omega)).trans ?_; exact (Decidable.em (i = (6 * v59.toInt + 47))).elim (fun k208_ => by refine (eA_eqT hI62.1 ka_233 k208_ (by first | decide | omega) (by first | decide | omega)).trans ?_; (first | (with_reducible rfl) | (omega) | (rfl))) (fun k208_ => by refine (eA_neT hI62.1 ka_233 k208_ (by first | decide | omega) (by omega)).trans ?_; exact (Decidable.em (i = (6 * v59.toInt + 46))).elim (fun k209_ => by refine (eA_eqT hI0.1 ka_233 k209_ (by first | decide | omega) (by first | decide | omega)).trans ?_; (first | (with_reducible rfl) | (omega) | (rfl))) (fun k209_ => by refine (eA_neT hI0.1 ka_233 k209_ (by first | decide | omega) (by omega)).trans ?_; (first | with_reducible rfl | omega | exact eA_ix (by omega) | rfl))))))))) (fun k202_ => by refine Eq.trans ?_ (if_neg k202_).symm; exact (Decidable.em (i = 46 + 6 * (eA g0 233 1).toInt + 4)).elim (fun k210_ => by refine Eq.trans ?_ (if_pos k210_).symm; exact (Decidable.em (i = 1)).elim (fun k211_ => by refine (eA_eqT hI80.1 ka_233 k211_ (by first | decide | omega) (by first | decide | omega)).trans ?_; (first | (with_reducible rfl) | (omega) | (rfl))) (fun k211_ => by refine (eA_neT hI80.1 ka_233 k211_ (by first | decide | omega) (by omega)).trans ?_; exact (Decidable.em (i = (6 * v59.toInt + 51))).elim (fun k212_ => by refine (eA_eqT hI77.1 ka_233 k212_ (by first | decide | omega) (by first | decide | omega)).trans ?_; (first | (with_reducible rfl) | (omega) | (rfl))) (fun k212_ => by refine (eA_neT hI77.1 ka_233 k212_ (by first | decide | omega) (by omega)).trans ?_; exact (Decidable.em (i = (6 * v59.toInt + 50))).elim (fun k213_ => by refine (eA_eqT hI74.1 ka_233 k213_ (by first | decide | omega) (by first | decide | omega)).trans ?_; (first | (with_reducible rfl) | (omega) | (rfl))) (fun k213_ => by refine (eA_neT hI74.1 ka_233 k213_ (by first | decide | omega) (by omega)).trans ?_; exact (Decidable.em (i = (6 * v59.toInt + 49))).elim (fun k214_ => by refine (eA_eqT hI70.1 ka_233 k214_ (by first | decide | omega) (by first | decide | omega)).trans ?_; (first | (with_reducible rfl) | (omega) | (rfl))) (fun k214_ => by refine (eA_neT hI70.1 ka_233 k214_ (by first | decide | omega) (by omega)).trans ?_; exact (Decidable.em (i = (6 * v59.toInt + 48))).elim (fun k215_ => by refine (eA_eqT hI65.1 ka_233 k215_ (by first | decide | omega) (by first | decide | omega)).trans ?_; (first | (with_reducible rfl) | (omega) | (rfl))) (fun k215_ => by refine (eA_neT hI65.1 ka_233 k215_ (by first | decide | omega) (by omega)).trans ?_; exact (Decidable.em (i = (6 * v59.toInt + 47))).elim (fun k216_ => by refine (eA_eqT hI62.1 ka_233 k216_ (by first | decide | omega) (by first | decide | omega)).trans ?_; (first | (with_reducible rfl) | (omega) | (rfl))) (fun k216_ => by refine (eA_neT hI62.1 ka_233 k216_ (by first | decide | omega) (by omega)).trans ?_; exact (Decidable.em (i = (6 * v59.toInt + 46))).elim (fun k217_ => by refine (eA_eqT hI0.1 ka_233 k217_ (by first | decide | omega) (by first | decide | omega)).trans ?_; (first | (with_reducible rfl) | (omega) | (rfl))) (fun k217_ => by refine (eA_neT hI0.1 ka_233 k217_ (by first | decide | omega) (by omega)).trans ?_; (first | with_reducible rfl | omega | exact eA_ix (by omega) | rfl))))))))) (fun k210_ => by refine Eq.trans ?_ (if_neg k210_).symm; exact (Decidable.em (i = 46 + 6 * (eA g0 233 1).toInt + 5)).elim (fun k218_ => by refine Eq.trans ?_ (if_pos k218_).symm; exact (Decidable.em (i = 1)).elim (fun k219_ => by refine (eA_eqT hI80.1 ka_233 k219_ (by first | decide | omega) (by first | decide | omega)).trans ?_; (first | (with_reducible rfl) | (omega) | (rfl))) (fun k219_ => by refine (eA_neT hI80.1 ka_233 k219_ (by first | decide | omega) (by omega)).trans ?_; exact (Decidable.em (i = (6 * v59.toInt + 51))).elim (fun k220_ => by refine (eA_eqT hI77.1 ka_233 k220_ (by first | decide | omega) (by first | decide | omega)).trans ?_; (first | (with_reducible rfl) | (omega) | (rfl))) (fun k220_ => by refine (eA_neT hI77.1 ka_233 k220_ (by first | decide | omega) (by omega)).trans ?_; exact (Decidable.em (i = (6 * v59.toInt + 50))).elim (fun k221_ => by refine (eA_eqT hI74.1 ka_233 k221_ (by first | decide | omega) (by first | decide | omega)).trans ?_; (first | (with_reducible rfl) | (omega) | (rfl))) (fun k221_ => by refine (eA_neT hI74.1 ka_233 k221_ (by first | decide | omega) (by omega)).trans ?_; exact (Decidable.em (i = (6 * v59.toInt + 49))).elim (fun k222_ => by refine (eA_eqT hI70.1 ka_233 k222_ (by first | decide | omega) (by first | decide | omega)).trans ?_; (first | (with_reducible rfl) | (omega) | (rfl))) (fun k222_ => by refine (eA_neT hI70.1 ka_233 k222_ (by first | decide | omega) (by omega)).trans ?_; exact (Decidable.em (i = (6 * v59.toInt + 48))).elim (fun k223_ => by refine (eA_eqT hI65.1 ka_233 k223_ (by first | decide | omega) (by first | decide | omega)).trans ?_; (first | (with_reducible rfl) | (omega) | (rfl))) (fun k223_ => by refine (eA_neT hI65.1 ka_233 k223_ (by first | decide | omega) (by omega)).trans ?_; exact (Decidable.em (i = (6 * v59.toInt + 47))).elim (fun k224_ => by refine (eA_eqT hI62.1 ka_233 k224_ (by first | decide | omega) (by first | decide | omega)).trans ?_; (first | (with_reducible rfl) | (omega) | (rfl))) (fun k224_ => by refine (eA_neT hI62.1 ka_233 k224_ (by first | decide | omega) (by omega)).trans ?_; exact (Decidable.em (i = (6 * v59.toInt + 46))).elim (fun k225_ => by refine (eA_eqT hI0.1 ka_233 k225_ (by first | decide | omega) (by first | decide | omega)).trans ?_; (first | (with_reducible rfl) | (omega) | (rfl))) (fun k225_ => by refine (eA_neT hI0.1 ka_233 k225_ (by first | decide | omega) (by omega)).trans ?_; (first | with_reducible rfl | omega | exact eA_ix (by omega) | rfl))))))))) (fun k218_ => by refine Eq.trans ?_ (if_neg k218_).symm; exact (Decidable.em (i = 1)).elim (fun k226_ => by refine (eA_eqT hI80.1 ka_233 k226_ (by first | decide | omega) (by first | decide | omega)).trans ?_; (first | (with_reducible rfl) | (omega) | (rfl))) (fun k226_ => by refine (eA_neT hI80.1 ka_233 k226_ (by first | decide | omega) (by omega)).trans ?_; exact (Decidable.em (i = (6 * v59.toInt + 51))).elim (fun k227_ => by refine (eA_eqT hI77.1 ka_233 k227_ (by first | decide | omega) (by first | decide | omega)).trans ?_; (first | (with_reducible rfl) | (omega) | (rfl))) (fun k227_ => by refine (eA_neT hI77.1 ka_233 k227_ (by first | decide | omega) (by omega)).trans ?_; exact (Decidable.em (i = (6 * v59.toInt + 50))).elim (fun k228_ => by refine (eA_eqT hI74.1 ka_233 k228_ (by first | decide | omega) (by first | decide | omega)).trans ?_; (first | (with_reducible rfl) | (omega) | (rfl))) (fun k228_ => by refine (eA_neT hI74.1 ka_233 k228_ (by first | decide | omega) (by omega)).trans ?_; exact (Decidable.em (i = (6 * v59.toInt + 49))).elim (fun k229_ => by refine (eA_eqT hI70.1 ka_233 k229_ (by first | decide | omega) (by first | decide | omega)).trans ?_; (first | (with_reducible rfl) | (omega) | (rfl))) (fun k229_ => by refine (eA_neT hI70.1 ka_233 k229_ (by first | decide | omega) (by omega)).trans ?_; exact (Decidable.em (i = (6 * v59.toInt + 48))).elim (fun k230_ => by refine (eA_eqT hI65.1 ka_233 k230_ (by first | decide | omega) (by first | decide | omega)).trans ?_; (first | (with_reducible rfl) | (omega) | (rfl))) (fun k230_ => by refine (eA_neT hI65.1 ka_233 k230_ (by first | decide | omega) (by omega)).trans ?_; exact (Decidable.em (i = (6 * v59.toInt + 47))).elim (fun k231_ => by refine (eA_eqT hI62.1 ka_233 k231_ (by first | decide | omega) (by first | decide | omega)).trans ?_; (first | (with_reducible rfl) | (omega) | (rfl))) (fun k231_ => by refine (eA_neT hI62.1 ka_233 k231_ (by first | decide | omega) (by omega)).trans ?_; exact (Decidable.em (i = (6 * v59.toInt + 46))).elim (fun k232_ => by refine (eA_eqT hI0.1 ka_233 k232_ (by first | decide | omega) (by first | decide | omega)).trans ?_; (first | (with_reducible rfl) | (omega) | (rfl))) (fun k232_ => by refine (eA_neT hI0.1 ka_233 k232_ (by first | decide | omega) (by omega)).trans ?_; (first | with_reducible rfl | omega | exact eA_ix (by omega) | rfl)))))))))))))))⟩⟩

def F_X11_load_231 : List (Nat × Nat) := [(231, 0), (231, 1)]
def A_X11_load_231 : List Nat := [232, 233]
set_option maxRecDepth 100000 in
set_option maxHeartbeats 4000000 in
theorem T_X11_load_231 (d : Nat) {N : Nat} {g0 : List en_E} (hI0 : HI g0) (a1 : Int32) (a2 : Int32) (a3 : Int32) (a4 : Int32) (a5 : Int32) (a6 : Int32) : Ev (d + 3) 178 [.ref 231, .int a1, .int a2, .int a3, .int a4, .int a5, .int a6] (g0, N) (fun w h' => ∃ g', h' = (g', N) ∧ HI g' ∧ Fr F_X11_load_231 A_X11_load_231 g0 g' ∧ ∃ r : Int32, w = some (.int r) ∧ ((-5) ≤ r.toInt ∧ r.toInt ≤ 7) ∧ (((¬ (1 ≤ a1.toInt ∧ a1.toInt ≤ 9 ∧ 0 ≤ a4.toInt ∧ a4.toInt ≤ 99 ∧ 0 ≤ a5.toInt ∧ a5.toInt ≤ 9 ∧ 0 ≤ a6.toInt ∧ a6.toInt ≤ 9999) → r.toInt = -1 ∧ (eA g' 233 1).toInt = (eA g0 233 1).toInt) ∧ ((1 ≤ a1.toInt ∧ a1.toInt ≤ 9 ∧ 0 ≤ a4.toInt ∧ a4.toInt ≤ 99 ∧ 0 ≤ a5.toInt ∧ a5.toInt ≤ 9 ∧ 0 ≤ a6.toInt ∧ a6.toInt ≤ 9999) ∧ ¬ (0 ≤ a2.toInt ∧ a2.toInt < (eA g0 233 0).toInt ∧ 0 ≤ a3.toInt ∧ a3.toInt < (eA g0 233 0).toInt) → r.toInt = -2 ∧ (eA g' 233 1).toInt = (eA g0 233 1).toInt) ∧ ((1 ≤ a1.toInt ∧ a1.toInt ≤ 9 ∧ 0 ≤ a4.toInt ∧ a4.toInt ≤ 99 ∧ 0 ≤ a5.toInt ∧ a5.toInt ≤ 9 ∧ 0 ≤ a6.toInt ∧ a6.toInt ≤ 9999) ∧ (0 ≤ a2.toInt ∧ a2.toInt < (eA g0 233 0).toInt ∧ 0 ≤ a3.toInt ∧ a3.toInt < (eA g0 233 0).toInt) ∧ 8 ≤ (eA g0 233 1).toInt → r.toInt = -5 ∧ (eA g' 233 1).toInt = (eA g0 233 1).toInt) ∧ ((1 ≤ a1.toInt ∧ a1.toInt ≤ 9 ∧ 0 ≤ a4.toInt ∧ a4.toInt ≤ 99 ∧ 0 ≤ a5.toInt ∧ a5.toInt ≤ 9 ∧ 0 ≤ a6.toInt ∧ a6.toInt ≤ 9999) ∧ (0 ≤ a2.toInt ∧ a2.toInt < (eA g0 233 0).toInt ∧ 0 ≤ a3.toInt ∧ a3.toInt < (eA g0 233 0).toInt) ∧ (eA g0 233 1).toInt < 8 → r.toInt = (eA g0 233 1).toInt ∧ (eA g' 233 1).toInt = (eA g0 233 1).toInt + 1) ∧ (eA g' 233 0).toInt = (eA g0 233 0).toInt ∧ (eA g' 233 4).toInt = (eA g0 233 4).toInt ∧ (eA g' 233 5).toInt = (eA g0 233 5).toInt ∧ (eA g' 233 6).toInt = (eA g0 233 6).toInt ∧ (eA g' 233 2).toInt = (eA g0 233 2).toInt ∧ (eA g' 233 3).toInt = (eA g0 233 3).toInt) ∧ (∀ i : Int, 10 ≤ i → i < 46 → (eA g' 233 (i)).toInt = (eA g0 233 (i)).toInt) ∧ (∀ i : Int, 94 ≤ i → i < 5510 → (eA g' 233 (i)).toInt = (eA g0 233 (i)).toInt) ∧ (∀ i : Int, 46 ≤ i → i < 94 → (eA g' 233 (i)).toInt = if ((1 ≤ a1.toInt ∧ a1.toInt ≤ 9 ∧ 0 ≤ a4.toInt ∧ a4.toInt ≤ 99 ∧ 0 ≤ a5.toInt ∧ a5.toInt ≤ 9 ∧ 0 ≤ a6.toInt ∧ a6.toInt ≤ 9999) ∧ (0 ≤ a2.toInt ∧ a2.toInt < (eA g0 233 0).toInt ∧ 0 ≤ a3.toInt ∧ a3.toInt < (eA g0 233 0).toInt) ∧ (eA g0 233 1).toInt < 8) ∧ i = 46 + 6 * (eA g0 233 1).toInt + 0 then a1.toInt else if ((1 ≤ a1.toInt ∧ a1.toInt ≤ 9 ∧ 0 ≤ a4.toInt ∧ a4.toInt ≤ 99 ∧ 0 ≤ a5.toInt ∧ a5.toInt ≤ 9 ∧ 0 ≤ a6.toInt ∧ a6.toInt ≤ 9999) ∧ (0 ≤ a2.toInt ∧ a2.toInt < (eA g0 233 0).toInt ∧ 0 ≤ a3.toInt ∧ a3.toInt < (eA g0 233 0).toInt) ∧ (eA g0 233 1).toInt < 8) ∧ i = 46 + 6 * (eA g0 233 1).toInt + 1 then a2.toInt else if ((1 ≤ a1.toInt ∧ a1.toInt ≤ 9 ∧ 0 ≤ a4.toInt ∧ a4.toInt ≤ 99 ∧ 0 ≤ a5.toInt ∧ a5.toInt ≤ 9 ∧ 0 ≤ a6.toInt ∧ a6.toInt ≤ 9999) ∧ (0 ≤ a2.toInt ∧ a2.toInt < (eA g0 233 0).toInt ∧ 0 ≤ a3.toInt ∧ a3.toInt < (eA g0 233 0).toInt) ∧ (eA g0 233 1).toInt < 8) ∧ i = 46 + 6 * (eA g0 233 1).toInt + 2 then a3.toInt else if ((1 ≤ a1.toInt ∧ a1.toInt ≤ 9 ∧ 0 ≤ a4.toInt ∧ a4.toInt ≤ 99 ∧ 0 ≤ a5.toInt ∧ a5.toInt ≤ 9 ∧ 0 ≤ a6.toInt ∧ a6.toInt ≤ 9999) ∧ (0 ≤ a2.toInt ∧ a2.toInt < (eA g0 233 0).toInt ∧ 0 ≤ a3.toInt ∧ a3.toInt < (eA g0 233 0).toInt) ∧ (eA g0 233 1).toInt < 8) ∧ i = 46 + 6 * (eA g0 233 1).toInt + 3 then a4.toInt else if ((1 ≤ a1.toInt ∧ a1.toInt ≤ 9 ∧ 0 ≤ a4.toInt ∧ a4.toInt ≤ 99 ∧ 0 ≤ a5.toInt ∧ a5.toInt ≤ 9 ∧ 0 ≤ a6.toInt ∧ a6.toInt ≤ 9999) ∧ (0 ≤ a2.toInt ∧ a2.toInt < (eA g0 233 0).toInt ∧ 0 ≤ a3.toInt ∧ a3.toInt < (eA g0 233 0).toInt) ∧ (eA g0 233 1).toInt < 8) ∧ i = 46 + 6 * (eA g0 233 1).toInt + 4 then a5.toInt else if ((1 ≤ a1.toInt ∧ a1.toInt ≤ 9 ∧ 0 ≤ a4.toInt ∧ a4.toInt ≤ 99 ∧ 0 ≤ a5.toInt ∧ a5.toInt ≤ 9 ∧ 0 ≤ a6.toInt ∧ a6.toInt ≤ 9999) ∧ (0 ≤ a2.toInt ∧ a2.toInt < (eA g0 233 0).toInt ∧ 0 ≤ a3.toInt ∧ a3.toInt < (eA g0 233 0).toInt) ∧ (eA g0 233 1).toInt < 8) ∧ i = 46 + 6 * (eA g0 233 1).toInt + 5 then a6.toInt else (eA g0 233 (i)).toInt))) := by
  have hF0 : Fr F_X11_load_231 A_X11_load_231 g0 g0 := Fr.rf
  refine Ev.mk rfl rfl ⟨Nat.le_of_ble_eq_true rfl, Or.inr (q_rc hI0.1 kx_231 rfl)⟩ ?_
  show At _ none _ _ (0, [(0, .ref 231), (1, .int a1), (2, .int a2), (3, .int a3), (4, .int a4), (5, .int a5), (6, .int a6)], [], (_, _)) _
  refine At.enter rfl ?_
  refine r_aload_n rfl ?_
  refine r_iconst 0 rfl ?_
  refine q_putI (Sh.int hI0.1 kx_231 rfl) rfl ?_
  have hI283 := HI.wI0 hI0 kx_231 rfl (p := 231) (b := 0) (v := 0) rfl
  have hF284 := Fr.wI (p := 231) (b := 0) (v := 0) hF0 rfl
  refine r_iload_n rfl ?_
  refine r_iload rfl ?_
  refine r_iload rfl ?_
  refine r_iload rfl ?_
  refine q_inlS 15 rfl [.int a1, .int a4, .int a5, .int a6] [] (Nat.le_of_ble_eq_true rfl) rfl ?_
  refine Ev.mk rfl rfl ⟨Nat.le_of_ble_eq_true rfl, Or.inl rfl⟩ ?_
  show At _ none _ _ (0, [(0, .int a1), (1, .int a4), (2, .int a5), (3, .int a6)], [], (_, _)) _
  refine At.enter rfl ?_
  refine r_iload_n rfl ?_
  refine q_i2l (fun v285 hv285 => ?_)
  refine r_lconst 1 rfl ?_
  refine r_ldc2 9 rfl ?_
  refine q_inlS 9 rfl [.long v285, .long 1, .long 9] [] (Nat.le_of_ble_eq_true rfl) rfl ?_
  refine Ev.mk rfl rfl ⟨Nat.le_of_ble_eq_true rfl, Or.inl rfl⟩ ?_
  show At _ none _ _ (0, [(0, .long v285), (2, .long 1), (4, .long 9)], [], (_, _)) _
  refine At.enter rfl ?_
  refine r_lload_n rfl ?_
  refine r_lload_n rfl ?_
  refine r_lcmp _ rfl ?_
  refine r_ifs 6 rfl (fun c286 => ?_) (fun c286 => ?_)
  · have c286_ : v285.toInt < 1 := en_j_lt_t c286
    refine At.enter rfl ?_
    refine r_iconst 0 rfl ?_
    refine Ar.fall 18 rfl ?_
    refine At.enter rfl ?_
    refine q_iretz (by decide) ?_
    refine At.enter rfl ?_
    refine r_ift (by decide) ?_
    refine At.enter rfl ?_
    refine r_iconst 0 rfl ?_
    refine Ar.fall 53 rfl ?_
    refine At.enter rfl ?_
    refine q_iretz (by decide) ?_
    refine At.enter rfl ?_
    refine r_iff 18 rfl (by decide) ?_
    refine At.enter rfl ?_
    refine r_aload_n rfl ?_
    refine r_iconst (-1) rfl ?_
    refine r_callV 23 rfl [.ref 231, .int (-1)] [] (Nat.le_of_ble_eq_true rfl) rfl (T_X11_tell_231 _ hI283 (-1) (by decide)) ?_
    rintro _ _ ⟨g287, rfl, hI288, hF289, v290, rfl, hr291⟩
    refine At.sti ?_
    have hF292 := Fr.tr hF284 hF289 rfl rfl
    have zv293 : ((-1) : Int32).toInt = (-1) := rfl
    refine At.enter rfl ?_
    refine r_ireti ?_
    obtain ⟨v294, hv294⟩ : ∃ v, eA g0 233 1 = v := ⟨_, rfl⟩
    have tv294 := congrArg Int32.toInt hv294
    have wv294 := HI.t1 hI0
    rw [hv294] at wv294
    have tv294 := congrArg Int32.toInt hv294
    have x295 := HI.eqA hI288 (p := 233) (j := 1) ((((eA_c (hF289.2.1 233 ma_X11_tell_231_233)).trans (eA_c gA_sI)).trans hv294))
    obtain ⟨v296, hv296⟩ : ∃ v, eA g0 233 0 = v := ⟨_, rfl⟩
    have tv296 := congrArg Int32.toInt hv296
    have wv296 := HI.t0 hI0
    rw [hv296] at wv296
    have tv296 := congrArg Int32.toInt hv296
    have x297 := HI.eqA hI288 (p := 233) (j := 0) ((((eA_c (hF289.2.1 233 ma_X11_tell_231_233)).trans (eA_c gA_sI)).trans hv296))
    obtain ⟨v298, hv298⟩ : ∃ v, eA g0 233 4 = v := ⟨_, rfl⟩
    have wv298 := HI.t4 hI0
    rw [hv298] at wv298
    have tv298 := congrArg Int32.toInt hv298
    have x299 := HI.eqA hI288 (p := 233) (j := 4) ((((eA_c (hF289.2.1 233 ma_X11_tell_231_233)).trans (eA_c gA_sI)).trans hv298))
    obtain ⟨v300, hv300⟩ : ∃ v, eA g0 233 5 = v := ⟨_, rfl⟩
    have wv300 := HI.t5 hI0
    rw [hv300] at wv300
    have tv300 := congrArg Int32.toInt hv300
    have x301 := HI.eqA hI288 (p := 233) (j := 5) ((((eA_c (hF289.2.1 233 ma_X11_tell_231_233)).trans (eA_c gA_sI)).trans hv300))
    obtain ⟨v302, hv302⟩ : ∃ v, eA g0 233 6 = v := ⟨_, rfl⟩
    have wv302 := HI.t6 hI0
    rw [hv302] at wv302
    have tv302 := congrArg Int32.toInt hv302
    have x303 := HI.eqA hI288 (p := 233) (j := 6) ((((eA_c (hF289.2.1 233 ma_X11_tell_231_233)).trans (eA_c gA_sI)).trans hv302))
    obtain ⟨v304, hv304⟩ : ∃ v, eA g0 233 2 = v := ⟨_, rfl⟩
    have tv304 := congrArg Int32.toInt hv304
    have wv304 := HI.t2 hI0
    rw [hv304] at wv304
    have tv304 := congrArg Int32.toInt hv304
    have x305 := HI.eqA hI288 (p := 233) (j := 2) ((((eA_c (hF289.2.1 233 ma_X11_tell_231_233)).trans (eA_c gA_sI)).trans hv304))
    obtain ⟨v306, hv306⟩ : ∃ v, eA g0 233 3 = v := ⟨_, rfl⟩
    have wv306 := HI.t3 hI0
    rw [hv306] at wv306
    have tv306 := congrArg Int32.toInt hv306
    have x307 := HI.eqA hI288 (p := 233) (j := 3) ((((eA_c (hF289.2.1 233 ma_X11_tell_231_233)).trans (eA_c gA_sI)).trans hv306))
    have x308 := HI.eqA hI0 (p := 233) (j := 1) (hv294)
    have x309 := HI.eqA hI0 (p := 233) (j := 0) (hv296)
    have x310 := HI.eqA hI0 (p := 233) (j := 0) (hv296)
    have x311 := HI.eqA hI0 (p := 233) (j := 4) (hv298)
    have x312 := HI.eqA hI0 (p := 233) (j := 5) (hv300)
    have x313 := HI.eqA hI0 (p := 233) (j := 6) (hv302)
    have x314 := HI.eqA hI0 (p := 233) (j := 2) (hv304)
    have x315 := HI.eqA hI0 (p := 233) (j := 3) (hv306)
    exact ⟨_, rfl, hI288, hF292, _, rfl, by omega, ⟨⟨by omega, by omega, by omega, by omega, by omega, by omega, by omega, by omega, by omega, by omega⟩, (by intro i i0 i1; refine (eA_ti (((hF289.2.1 233 ma_X11_tell_231_233).trans (gA_sI)))).trans ?_; (first | with_reducible rfl | omega | exact eA_ix (by omega) | rfl)), (by intro i i0 i1; refine (eA_ti (((hF289.2.1 233 ma_X11_tell_231_233).trans (gA_sI)))).trans ?_; (first | with_reducible rfl | omega | exact eA_ix (by omega) | rfl)), (by have kn : ¬ ((1 ≤ a1.toInt ∧ a1.toInt ≤ 9 ∧ 0 ≤ a4.toInt ∧ a4.toInt ≤ 99 ∧ 0 ≤ a5.toInt ∧ a5.toInt ≤ 9 ∧ 0 ≤ a6.toInt ∧ a6.toInt ≤ 9999) ∧ (0 ≤ a2.toInt ∧ a2.toInt < (eA g0 233 0).toInt ∧ 0 ≤ a3.toInt ∧ a3.toInt < (eA g0 233 0).toInt) ∧ (eA g0 233 1).toInt < 8) := (by omega); intro i i0 i1; refine Eq.trans ?_ (if_neg (show ¬ (((1 ≤ a1.toInt ∧ a1.toInt ≤ 9 ∧ 0 ≤ a4.toInt ∧ a4.toInt ≤ 99 ∧ 0 ≤ a5.toInt ∧ a5.toInt ≤ 9 ∧ 0 ≤ a6.toInt ∧ a6.toInt ≤ 9999) ∧ (0 ≤ a2.toInt ∧ a2.toInt < (eA g0 233 0).toInt ∧ 0 ≤ a3.toInt ∧ a3.toInt < (eA g0 233 0).toInt) ∧ (eA g0 233 1).toInt < 8) ∧ i = 46 + 6 * (eA g0 233 1).toInt + 0) from fun z => kn z.1)).symm; refine Eq.trans ?_ (if_neg (show ¬ (((1 ≤ a1.toInt ∧ a1.toInt ≤ 9 ∧ 0 ≤ a4.toInt ∧ a4.toInt ≤ 99 ∧ 0 ≤ a5.toInt ∧ a5.toInt ≤ 9 ∧ 0 ≤ a6.toInt ∧ a6.toInt ≤ 9999) ∧ (0 ≤ a2.toInt ∧ a2.toInt < (eA g0 233 0).toInt ∧ 0 ≤ a3.toInt ∧ a3.toInt < (eA g0 233 0).toInt) ∧ (eA g0 233 1).toInt < 8) ∧ i = 46 + 6 * (eA g0 233 1).toInt + 1) from fun z => kn z.1)).symm; refine Eq.trans ?_ (if_neg (show ¬ (((1 ≤ a1.toInt ∧ a1.toInt ≤ 9 ∧ 0 ≤ a4.toInt ∧ a4.toInt ≤ 99 ∧ 0 ≤ a5.toInt ∧ a5.toInt ≤ 9 ∧ 0 ≤ a6.toInt ∧ a6.toInt ≤ 9999) ∧ (0 ≤ a2.toInt ∧ a2.toInt < (eA g0 233 0).toInt ∧ 0 ≤ a3.toInt ∧ a3.toInt < (eA g0 233 0).toInt) ∧ (eA g0 233 1).toInt < 8) ∧ i = 46 + 6 * (eA g0 233 1).toInt + 2) from fun z => kn z.1)).symm; refine Eq.trans ?_ (if_neg (show ¬ (((1 ≤ a1.toInt ∧ a1.toInt ≤ 9 ∧ 0 ≤ a4.toInt ∧ a4.toInt ≤ 99 ∧ 0 ≤ a5.toInt ∧ a5.toInt ≤ 9 ∧ 0 ≤ a6.toInt ∧ a6.toInt ≤ 9999) ∧ (0 ≤ a2.toInt ∧ a2.toInt < (eA g0 233 0).toInt ∧ 0 ≤ a3.toInt ∧ a3.toInt < (eA g0 233 0).toInt) ∧ (eA g0 233 1).toInt < 8) ∧ i = 46 + 6 * (eA g0 233 1).toInt + 3) from fun z => kn z.1)).symm; refine Eq.trans ?_ (if_neg (show ¬ (((1 ≤ a1.toInt ∧ a1.toInt ≤ 9 ∧ 0 ≤ a4.toInt ∧ a4.toInt ≤ 99 ∧ 0 ≤ a5.toInt ∧ a5.toInt ≤ 9 ∧ 0 ≤ a6.toInt ∧ a6.toInt ≤ 9999) ∧ (0 ≤ a2.toInt ∧ a2.toInt < (eA g0 233 0).toInt ∧ 0 ≤ a3.toInt ∧ a3.toInt < (eA g0 233 0).toInt) ∧ (eA g0 233 1).toInt < 8) ∧ i = 46 + 6 * (eA g0 233 1).toInt + 4) from fun z => kn z.1)).symm; refine Eq.trans ?_ (if_neg (show ¬ (((1 ≤ a1.toInt ∧ a1.toInt ≤ 9 ∧ 0 ≤ a4.toInt ∧ a4.toInt ≤ 99 ∧ 0 ≤ a5.toInt ∧ a5.toInt ≤ 9 ∧ 0 ≤ a6.toInt ∧ a6.toInt ≤ 9999) ∧ (0 ≤ a2.toInt ∧ a2.toInt < (eA g0 233 0).toInt ∧ 0 ≤ a3.toInt ∧ a3.toInt < (eA g0 233 0).toInt) ∧ (eA g0 233 1).toInt < 8) ∧ i = 46 + 6 * (eA g0 233 1).toInt + 5) from fun z => kn z.1)).symm; refine (eA_ti (((hF289.2.1 233 ma_X11_tell_231_233).trans (gA_sI)))).trans ?_; (first | with_reducible rfl | omega | exact eA_ix (by omega) | rfl))⟩⟩
  · have c286_ : v285.toInt ≥ 1 := en_j_lt_f c286
    refine At.enter rfl ?_
    refine r_lload_n rfl ?_
    refine r_lload rfl ?_
    refine r_lcmp _ rfl ?_
    refine r_ifs 13 rfl (fun c316 => ?_) (fun c316 => ?_)
    · have c316_ : v285.toInt > 9 := en_j_gt_t c316
      refine At.enter rfl ?_
      refine r_iconst 0 rfl ?_
      refine Ar.fall 18 rfl ?_
      refine At.enter rfl ?_
      refine q_iretz (by decide) ?_
      refine At.enter rfl ?_
      refine r_ift (by decide) ?_
      refine At.enter rfl ?_
      refine r_iconst 0 rfl ?_
      refine Ar.fall 53 rfl ?_
      refine At.enter rfl ?_
      refine q_iretz (by decide) ?_
      refine At.enter rfl ?_
      refine r_iff 18 rfl (by decide) ?_
      refine At.enter rfl ?_
      refine r_aload_n rfl ?_
      refine r_iconst (-1) rfl ?_
      refine r_callV 23 rfl [.ref 231, .int (-1)] [] (Nat.le_of_ble_eq_true rfl) rfl (T_X11_tell_231 _ hI283 (-1) (by decide)) ?_
      rintro _ _ ⟨g317, rfl, hI318, hF319, v320, rfl, hr321⟩
      refine At.sti ?_
      have hF322 := Fr.tr hF284 hF319 rfl rfl
      have zv323 : ((-1) : Int32).toInt = (-1) := rfl
      refine At.enter rfl ?_
      refine r_ireti ?_
      obtain ⟨v324, hv324⟩ : ∃ v, eA g0 233 1 = v := ⟨_, rfl⟩
      have tv324 := congrArg Int32.toInt hv324
      have wv324 := HI.t1 hI0
      rw [hv324] at wv324
      have tv324 := congrArg Int32.toInt hv324
      have x325 := HI.eqA hI318 (p := 233) (j := 1) ((((eA_c (hF319.2.1 233 ma_X11_tell_231_233)).trans (eA_c gA_sI)).trans hv324))
      obtain ⟨v326, hv326⟩ : ∃ v, eA g0 233 0 = v := ⟨_, rfl⟩
      have tv326 := congrArg Int32.toInt hv326
      have wv326 := HI.t0 hI0
      rw [hv326] at wv326
      have tv326 := congrArg Int32.toInt hv326
      have x327 := HI.eqA hI318 (p := 233) (j := 0) ((((eA_c (hF319.2.1 233 ma_X11_tell_231_233)).trans (eA_c gA_sI)).trans hv326))
      obtain ⟨v328, hv328⟩ : ∃ v, eA g0 233 4 = v := ⟨_, rfl⟩
      have wv328 := HI.t4 hI0
      rw [hv328] at wv328
      have tv328 := congrArg Int32.toInt hv328
      have x329 := HI.eqA hI318 (p := 233) (j := 4) ((((eA_c (hF319.2.1 233 ma_X11_tell_231_233)).trans (eA_c gA_sI)).trans hv328))
      obtain ⟨v330, hv330⟩ : ∃ v, eA g0 233 5 = v := ⟨_, rfl⟩
      have wv330 := HI.t5 hI0
      rw [hv330] at wv330
      have tv330 := congrArg Int32.toInt hv330
      have x331 := HI.eqA hI318 (p := 233) (j := 5) ((((eA_c (hF319.2.1 233 ma_X11_tell_231_233)).trans (eA_c gA_sI)).trans hv330))
      obtain ⟨v332, hv332⟩ : ∃ v, eA g0 233 6 = v := ⟨_, rfl⟩
      have wv332 := HI.t6 hI0
      rw [hv332] at wv332
      have tv332 := congrArg Int32.toInt hv332
      have x333 := HI.eqA hI318 (p := 233) (j := 6) ((((eA_c (hF319.2.1 233 ma_X11_tell_231_233)).trans (eA_c gA_sI)).trans hv332))
      obtain ⟨v334, hv334⟩ : ∃ v, eA g0 233 2 = v := ⟨_, rfl⟩
      have tv334 := congrArg Int32.toInt hv334
      have wv334 := HI.t2 hI0
      rw [hv334] at wv334
      have tv334 := congrArg Int32.toInt hv334
      have x335 := HI.eqA hI318 (p := 233) (j := 2) ((((eA_c (hF319.2.1 233 ma_X11_tell_231_233)).trans (eA_c gA_sI)).trans hv334))
      obtain ⟨v336, hv336⟩ : ∃ v, eA g0 233 3 = v := ⟨_, rfl⟩
      have wv336 := HI.t3 hI0
      rw [hv336] at wv336
      have tv336 := congrArg Int32.toInt hv336
      have x337 := HI.eqA hI318 (p := 233) (j := 3) ((((eA_c (hF319.2.1 233 ma_X11_tell_231_233)).trans (eA_c gA_sI)).trans hv336))
      have x338 := HI.eqA hI0 (p := 233) (j := 1) (hv324)
      have x339 := HI.eqA hI0 (p := 233) (j := 0) (hv326)
      have x340 := HI.eqA hI0 (p := 233) (j := 0) (hv326)
      have x341 := HI.eqA hI0 (p := 233) (j := 4) (hv328)
      have x342 := HI.eqA hI0 (p := 233) (j := 5) (hv330)
      have x343 := HI.eqA hI0 (p := 233) (j := 6) (hv332)
      have x344 := HI.eqA hI0 (p := 233) (j := 2) (hv334)
      have x345 := HI.eqA hI0 (p := 233) (j := 3) (hv336)
      exact ⟨_, rfl, hI318, hF322, _, rfl, by omega, ⟨⟨by omega, by omega, by omega, by omega, by omega, by omega, by omega, by omega, by omega, by omega⟩, (by intro i i0 i1; refine (eA_ti (((hF319.2.1 233 ma_X11_tell_231_233).trans (gA_sI)))).trans ?_; (first | with_reducible rfl | omega | exact eA_ix (by omega) | rfl)), (by intro i i0 i1; refine (eA_ti (((hF319.2.1 233 ma_X11_tell_231_233).trans (gA_sI)))).trans ?_; (first | with_reducible rfl | omega | exact eA_ix (by omega) | rfl)), (by have kn : ¬ ((1 ≤ a1.toInt ∧ a1.toInt ≤ 9 ∧ 0 ≤ a4.toInt ∧ a4.toInt ≤ 99 ∧ 0 ≤ a5.toInt ∧ a5.toInt ≤ 9 ∧ 0 ≤ a6.toInt ∧ a6.toInt ≤ 9999) ∧ (0 ≤ a2.toInt ∧ a2.toInt < (eA g0 233 0).toInt ∧ 0 ≤ a3.toInt ∧ a3.toInt < (eA g0 233 0).toInt) ∧ (eA g0 233 1).toInt < 8) := (by omega); intro i i0 i1; refine Eq.trans ?_ (if_neg (show ¬ (((1 ≤ a1.toInt ∧ a1.toInt ≤ 9 ∧ 0 ≤ a4.toInt ∧ a4.toInt ≤ 99 ∧ 0 ≤ a5.toInt ∧ a5.toInt ≤ 9 ∧ 0 ≤ a6.toInt ∧ a6.toInt ≤ 9999) ∧ (0 ≤ a2.toInt ∧ a2.toInt < (eA g0 233 0).toInt ∧ 0 ≤ a3.toInt ∧ a3.toInt < (eA g0 233 0).toInt) ∧ (eA g0 233 1).toInt < 8) ∧ i = 46 + 6 * (eA g0 233 1).toInt + 0) from fun z => kn z.1)).symm; refine Eq.trans ?_ (if_neg (show ¬ (((1 ≤ a1.toInt ∧ a1.toInt ≤ 9 ∧ 0 ≤ a4.toInt ∧ a4.toInt ≤ 99 ∧ 0 ≤ a5.toInt ∧ a5.toInt ≤ 9 ∧ 0 ≤ a6.toInt ∧ a6.toInt ≤ 9999) ∧ (0 ≤ a2.toInt ∧ a2.toInt < (eA g0 233 0).toInt ∧ 0 ≤ a3.toInt ∧ a3.toInt < (eA g0 233 0).toInt) ∧ (eA g0 233 1).toInt < 8) ∧ i = 46 + 6 * (eA g0 233 1).toInt + 1) from fun z => kn z.1)).symm; refine Eq.trans ?_ (if_neg (show ¬ (((1 ≤ a1.toInt ∧ a1.toInt ≤ 9 ∧ 0 ≤ a4.toInt ∧ a4.toInt ≤ 99 ∧ 0 ≤ a5.toInt ∧ a5.toInt ≤ 9 ∧ 0 ≤ a6.toInt ∧ a6.toInt ≤ 9999) ∧ (0 ≤ a2.toInt ∧ a2.toInt < (eA g0 233 0).toInt ∧ 0 ≤ a3.toInt ∧ a3.toInt < (eA g0 233 0).toInt) ∧ (eA g0 233 1).toInt < 8) ∧ i = 46 + 6 * (eA g0 233 1).toInt + 2) from fun z => kn z.1)).symm; refine Eq.trans ?_ (if_neg (show ¬ (((1 ≤ a1.toInt ∧ a1.toInt ≤ 9 ∧ 0 ≤ a4.toInt ∧ a4.toInt ≤ 99 ∧ 0 ≤ a5.toInt ∧ a5.toInt ≤ 9 ∧ 0 ≤ a6.toInt ∧ a6.toInt ≤ 9999) ∧ (0 ≤ a2.toInt ∧ a2.toInt < (eA g0 233 0).toInt ∧ 0 ≤ a3.toInt ∧ a3.toInt < (eA g0 233 0).toInt) ∧ (eA g0 233 1).toInt < 8) ∧ i = 46 + 6 * (eA g0 233 1).toInt + 3) from fun z => kn z.1)).symm; refine Eq.trans ?_ (if_neg (show ¬ (((1 ≤ a1.toInt ∧ a1.toInt ≤ 9 ∧ 0 ≤ a4.toInt ∧ a4.toInt ≤ 99 ∧ 0 ≤ a5.toInt ∧ a5.toInt ≤ 9 ∧ 0 ≤ a6.toInt ∧ a6.toInt ≤ 9999) ∧ (0 ≤ a2.toInt ∧ a2.toInt < (eA g0 233 0).toInt ∧ 0 ≤ a3.toInt ∧ a3.toInt < (eA g0 233 0).toInt) ∧ (eA g0 233 1).toInt < 8) ∧ i = 46 + 6 * (eA g0 233 1).toInt + 4) from fun z => kn z.1)).symm; refine Eq.trans ?_ (if_neg (show ¬ (((1 ≤ a1.toInt ∧ a1.toInt ≤ 9 ∧ 0 ≤ a4.toInt ∧ a4.toInt ≤ 99 ∧ 0 ≤ a5.toInt ∧ a5.toInt ≤ 9 ∧ 0 ≤ a6.toInt ∧ a6.toInt ≤ 9999) ∧ (0 ≤ a2.toInt ∧ a2.toInt < (eA g0 233 0).toInt ∧ 0 ≤ a3.toInt ∧ a3.toInt < (eA g0 233 0).toInt) ∧ (eA g0 233 1).toInt < 8) ∧ i = 46 + 6 * (eA g0 233 1).toInt + 5) from fun z => kn z.1)).symm; refine (eA_ti (((hF319.2.1 233 ma_X11_tell_231_233).trans (gA_sI)))).trans ?_; (first | with_reducible rfl | omega | exact eA_ix (by omega) | rfl))⟩⟩
    · have c316_ : v285.toInt ≤ 9 := en_j_gt_f c316
      refine At.enter rfl ?_
      refine r_iconst 1 rfl ?_
      refine r_goto ?_
      refine At.enter rfl ?_
      refine q_iretz (by decide) ?_
      refine At.enter rfl ?_
      refine r_iff 12 rfl (by decide) ?_
      refine At.enter rfl ?_
      refine r_iload_n rfl ?_
      refine q_i2l (fun v346 hv346 => ?_)
      refine r_lconst 0 rfl ?_
      refine r_ldc2 99 rfl ?_
      refine q_inlS 21 rfl [.long v346, .long 0, .long 99] [] (Nat.le_of_ble_eq_true rfl) rfl ?_
      refine Ev.mk rfl rfl ⟨Nat.le_of_ble_eq_true rfl, Or.inl rfl⟩ ?_
      show At _ none _ _ (0, [(0, .long v346), (2, .long 0), (4, .long 99)], [], (_, _)) _
      refine At.enter rfl ?_
      refine r_lload_n rfl ?_
      refine r_lload_n rfl ?_
      refine r_lcmp _ rfl ?_
      refine r_ifs 6 rfl (fun c347 => ?_) (fun c347 => ?_)
      · have c347_ : v346.toInt < 0 := en_j_lt_t c347
        refine At.enter rfl ?_
        refine r_iconst 0 rfl ?_
        refine Ar.fall 18 rfl ?_
        refine At.enter rfl ?_
        refine q_iretz (by decide) ?_
        refine At.enter rfl ?_
        refine r_ift (by decide) ?_
        refine At.enter rfl ?_
        refine r_iconst 0 rfl ?_
        refine Ar.fall 53 rfl ?_
        refine At.enter rfl ?_
        refine q_iretz (by decide) ?_
        refine At.enter rfl ?_
        refine r_iff 18 rfl (by decide) ?_
        refine At.enter rfl ?_
        refine r_aload_n rfl ?_
        refine r_iconst (-1) rfl ?_
        refine r_callV 23 rfl [.ref 231, .int (-1)] [] (Nat.le_of_ble_eq_true rfl) rfl (T_X11_tell_231 _ hI283 (-1) (by decide)) ?_
        rintro _ _ ⟨g348, rfl, hI349, hF350, v351, rfl, hr352⟩
        refine At.sti ?_
        have hF353 := Fr.tr hF284 hF350 rfl rfl
        have zv354 : ((-1) : Int32).toInt = (-1) := rfl
        refine At.enter rfl ?_
        refine r_ireti ?_
        obtain ⟨v355, hv355⟩ : ∃ v, eA g0 233 1 = v := ⟨_, rfl⟩
        have tv355 := congrArg Int32.toInt hv355
        have wv355 := HI.t1 hI0
        rw [hv355] at wv355
        have tv355 := congrArg Int32.toInt hv355
        have x356 := HI.eqA hI349 (p := 233) (j := 1) ((((eA_c (hF350.2.1 233 ma_X11_tell_231_233)).trans (eA_c gA_sI)).trans hv355))
        obtain ⟨v357, hv357⟩ : ∃ v, eA g0 233 0 = v := ⟨_, rfl⟩
        have tv357 := congrArg Int32.toInt hv357
        have wv357 := HI.t0 hI0
        rw [hv357] at wv357
        have tv357 := congrArg Int32.toInt hv357
        have x358 := HI.eqA hI349 (p := 233) (j := 0) ((((eA_c (hF350.2.1 233 ma_X11_tell_231_233)).trans (eA_c gA_sI)).trans hv357))
        obtain ⟨v359, hv359⟩ : ∃ v, eA g0 233 4 = v := ⟨_, rfl⟩
        have wv359 := HI.t4 hI0
        rw [hv359] at wv359
        have tv359 := congrArg Int32.toInt hv359
        have x360 := HI.eqA hI349 (p := 233) (j := 4) ((((eA_c (hF350.2.1 233 ma_X11_tell_231_233)).trans (eA_c gA_sI)).trans hv359))
        obtain ⟨v361, hv361⟩ : ∃ v, eA g0 233 5 = v := ⟨_, rfl⟩
        have wv361 := HI.t5 hI0
        rw [hv361] at wv361
        have tv361 := congrArg Int32.toInt hv361
        have x362 := HI.eqA hI349 (p := 233) (j := 5) ((((eA_c (hF350.2.1 233 ma_X11_tell_231_233)).trans (eA_c gA_sI)).trans hv361))
        obtain ⟨v363, hv363⟩ : ∃ v, eA g0 233 6 = v := ⟨_, rfl⟩
        have wv363 := HI.t6 hI0
        rw [hv363] at wv363
        have tv363 := congrArg Int32.toInt hv363
        have x364 := HI.eqA hI349 (p := 233) (j := 6) ((((eA_c (hF350.2.1 233 ma_X11_tell_231_233)).trans (eA_c gA_sI)).trans hv363))
        obtain ⟨v365, hv365⟩ : ∃ v, eA g0 233 2 = v := ⟨_, rfl⟩
        have tv365 := congrArg Int32.toInt hv365
        have wv365 := HI.t2 hI0
        rw [hv365] at wv365
        have tv365 := congrArg Int32.toInt hv365
        have x366 := HI.eqA hI349 (p := 233) (j := 2) ((((eA_c (hF350.2.1 233 ma_X11_tell_231_233)).trans (eA_c gA_sI)).trans hv365))
        obtain ⟨v367, hv367⟩ : ∃ v, eA g0 233 3 = v := ⟨_, rfl⟩
        have wv367 := HI.t3 hI0
        rw [hv367] at wv367
        have tv367 := congrArg Int32.toInt hv367
        have x368 := HI.eqA hI349 (p := 233) (j := 3) ((((eA_c (hF350.2.1 233 ma_X11_tell_231_233)).trans (eA_c gA_sI)).trans hv367))
        have x369 := HI.eqA hI0 (p := 233) (j := 1) (hv355)
        have x370 := HI.eqA hI0 (p := 233) (j := 0) (hv357)
        have x371 := HI.eqA hI0 (p := 233) (j := 0) (hv357)
        have x372 := HI.eqA hI0 (p := 233) (j := 4) (hv359)
        have x373 := HI.eqA hI0 (p := 233) (j := 5) (hv361)
        have x374 := HI.eqA hI0 (p := 233) (j := 6) (hv363)
        have x375 := HI.eqA hI0 (p := 233) (j := 2) (hv365)
        have x376 := HI.eqA hI0 (p := 233) (j := 3) (hv367)
        exact ⟨_, rfl, hI349, hF353, _, rfl, by omega, ⟨⟨by omega, by omega, by omega, by omega, by omega, by omega, by omega, by omega, by omega, by omega⟩, (by intro i i0 i1; refine (eA_ti (((hF350.2.1 233 ma_X11_tell_231_233).trans (gA_sI)))).trans ?_; (first | with_reducible rfl | omega | exact eA_ix (by omega) | rfl)), (by intro i i0 i1; refine (eA_ti (((hF350.2.1 233 ma_X11_tell_231_233).trans (gA_sI)))).trans ?_; (first | with_reducible rfl | omega | exact eA_ix (by omega) | rfl)), (by have kn : ¬ ((1 ≤ a1.toInt ∧ a1.toInt ≤ 9 ∧ 0 ≤ a4.toInt ∧ a4.toInt ≤ 99 ∧ 0 ≤ a5.toInt ∧ a5.toInt ≤ 9 ∧ 0 ≤ a6.toInt ∧ a6.toInt ≤ 9999) ∧ (0 ≤ a2.toInt ∧ a2.toInt < (eA g0 233 0).toInt ∧ 0 ≤ a3.toInt ∧ a3.toInt < (eA g0 233 0).toInt) ∧ (eA g0 233 1).toInt < 8) := (by omega); intro i i0 i1; refine Eq.trans ?_ (if_neg (show ¬ (((1 ≤ a1.toInt ∧ a1.toInt ≤ 9 ∧ 0 ≤ a4.toInt ∧ a4.toInt ≤ 99 ∧ 0 ≤ a5.toInt ∧ a5.toInt ≤ 9 ∧ 0 ≤ a6.toInt ∧ a6.toInt ≤ 9999) ∧ (0 ≤ a2.toInt ∧ a2.toInt < (eA g0 233 0).toInt ∧ 0 ≤ a3.toInt ∧ a3.toInt < (eA g0 233 0).toInt) ∧ (eA g0 233 1).toInt < 8) ∧ i = 46 + 6 * (eA g0 233 1).toInt + 0) from fun z => kn z.1)).symm; refine Eq.trans ?_ (if_neg (show ¬ (((1 ≤ a1.toInt ∧ a1.toInt ≤ 9 ∧ 0 ≤ a4.toInt ∧ a4.toInt ≤ 99 ∧ 0 ≤ a5.toInt ∧ a5.toInt ≤ 9 ∧ 0 ≤ a6.toInt ∧ a6.toInt ≤ 9999) ∧ (0 ≤ a2.toInt ∧ a2.toInt < (eA g0 233 0).toInt ∧ 0 ≤ a3.toInt ∧ a3.toInt < (eA g0 233 0).toInt) ∧ (eA g0 233 1).toInt < 8) ∧ i = 46 + 6 * (eA g0 233 1).toInt + 1) from fun z => kn z.1)).symm; refine Eq.trans ?_ (if_neg (show ¬ (((1 ≤ a1.toInt ∧ a1.toInt ≤ 9 ∧ 0 ≤ a4.toInt ∧ a4.toInt ≤ 99 ∧ 0 ≤ a5.toInt ∧ a5.toInt ≤ 9 ∧ 0 ≤ a6.toInt ∧ a6.toInt ≤ 9999) ∧ (0 ≤ a2.toInt ∧ a2.toInt < (eA g0 233 0).toInt ∧ 0 ≤ a3.toInt ∧ a3.toInt < (eA g0 233 0).toInt) ∧ (eA g0 233 1).toInt < 8) ∧ i = 46 + 6 * (eA g0 233 1).toInt + 2) from fun z => kn z.1)).symm; refine Eq.trans ?_ (if_neg (show ¬ (((1 ≤ a1.toInt ∧ a1.toInt ≤ 9 ∧ 0 ≤ a4.toInt ∧ a4.toInt ≤ 99 ∧ 0 ≤ a5.toInt ∧ a5.toInt ≤ 9 ∧ 0 ≤ a6.toInt ∧ a6.toInt ≤ 9999) ∧ (0 ≤ a2.toInt ∧ a2.toInt < (eA g0 233 0).toInt ∧ 0 ≤ a3.toInt ∧ a3.toInt < (eA g0 233 0).toInt) ∧ (eA g0 233 1).toInt < 8) ∧ i = 46 + 6 * (eA g0 233 1).toInt + 3) from fun z => kn z.1)).symm; refine Eq.trans ?_ (if_neg (show ¬ (((1 ≤ a1.toInt ∧ a1.toInt ≤ 9 ∧ 0 ≤ a4.toInt ∧ a4.toInt ≤ 99 ∧ 0 ≤ a5.toInt ∧ a5.toInt ≤ 9 ∧ 0 ≤ a6.toInt ∧ a6.toInt ≤ 9999) ∧ (0 ≤ a2.toInt ∧ a2.toInt < (eA g0 233 0).toInt ∧ 0 ≤ a3.toInt ∧ a3.toInt < (eA g0 233 0).toInt) ∧ (eA g0 233 1).toInt < 8) ∧ i = 46 + 6 * (eA g0 233 1).toInt + 4) from fun z => kn z.1)).symm; refine Eq.trans ?_ (if_neg (show ¬ (((1 ≤ a1.toInt ∧ a1.toInt ≤ 9 ∧ 0 ≤ a4.toInt ∧ a4.toInt ≤ 99 ∧ 0 ≤ a5.toInt ∧ a5.toInt ≤ 9 ∧ 0 ≤ a6.toInt ∧ a6.toInt ≤ 9999) ∧ (0 ≤ a2.toInt ∧ a2.toInt < (eA g0 233 0).toInt ∧ 0 ≤ a3.toInt ∧ a3.toInt < (eA g0 233 0).toInt) ∧ (eA g0 233 1).toInt < 8) ∧ i = 46 + 6 * (eA g0 233 1).toInt + 5) from fun z => kn z.1)).symm; refine (eA_ti (((hF350.2.1 233 ma_X11_tell_231_233).trans (gA_sI)))).trans ?_; (first | with_reducible rfl | omega | exact eA_ix (by omega) | rfl))⟩⟩
      · have c347_ : v346.toInt ≥ 0 := en_j_lt_f c347
        refine At.enter rfl ?_
        refine r_lload_n rfl ?_
        refine r_lload rfl ?_
        refine r_lcmp _ rfl ?_
        refine r_ifs 13 rfl (fun c377 => ?_) (fun c377 => ?_)
        · have c377_ : v346.toInt > 99 := en_j_gt_t c377
          refine At.enter rfl ?_
          refine r_iconst 0 rfl ?_
          refine Ar.fall 18 rfl ?_
          refine At.enter rfl ?_
          refine q_iretz (by decide) ?_
          refine At.enter rfl ?_
          refine r_ift (by decide) ?_
          refine At.enter rfl ?_
          refine r_iconst 0 rfl ?_
          refine Ar.fall 53 rfl ?_
          refine At.enter rfl ?_
          refine q_iretz (by decide) ?_
          refine At.enter rfl ?_
          refine r_iff 18 rfl (by decide) ?_
          refine At.enter rfl ?_
          refine r_aload_n rfl ?_
          refine r_iconst (-1) rfl ?_
          refine r_callV 23 rfl [.ref 231, .int (-1)] [] (Nat.le_of_ble_eq_true rfl) rfl (T_X11_tell_231 _ hI283 (-1) (by decide)) ?_
          rintro _ _ ⟨g378, rfl, hI379, hF380, v381, rfl, hr382⟩
          refine At.sti ?_
          have hF383 := Fr.tr hF284 hF380 rfl rfl
          have zv384 : ((-1) : Int32).toInt = (-1) := rfl
          refine At.enter rfl ?_
          refine r_ireti ?_
          obtain ⟨v385, hv385⟩ : ∃ v, eA g0 233 1 = v := ⟨_, rfl⟩
          have tv385 := congrArg Int32.toInt hv385
          have wv385 := HI.t1 hI0
          rw [hv385] at wv385
          have tv385 := congrArg Int32.toInt hv385
          have x386 := HI.eqA hI379 (p := 233) (j := 1) ((((eA_c (hF380.2.1 233 ma_X11_tell_231_233)).trans (eA_c gA_sI)).trans hv385))
          obtain ⟨v387, hv387⟩ : ∃ v, eA g0 233 0 = v := ⟨_, rfl⟩
          have tv387 := congrArg Int32.toInt hv387
          have wv387 := HI.t0 hI0
          rw [hv387] at wv387
          have tv387 := congrArg Int32.toInt hv387
          have x388 := HI.eqA hI379 (p := 233) (j := 0) ((((eA_c (hF380.2.1 233 ma_X11_tell_231_233)).trans (eA_c gA_sI)).trans hv387))
          obtain ⟨v389, hv389⟩ : ∃ v, eA g0 233 4 = v := ⟨_, rfl⟩
          have wv389 := HI.t4 hI0
          rw [hv389] at wv389
          have tv389 := congrArg Int32.toInt hv389
          have x390 := HI.eqA hI379 (p := 233) (j := 4) ((((eA_c (hF380.2.1 233 ma_X11_tell_231_233)).trans (eA_c gA_sI)).trans hv389))
          obtain ⟨v391, hv391⟩ : ∃ v, eA g0 233 5 = v := ⟨_, rfl⟩
          have wv391 := HI.t5 hI0
          rw [hv391] at wv391
          have tv391 := congrArg Int32.toInt hv391
          have x392 := HI.eqA hI379 (p := 233) (j := 5) ((((eA_c (hF380.2.1 233 ma_X11_tell_231_233)).trans (eA_c gA_sI)).trans hv391))
          obtain ⟨v393, hv393⟩ : ∃ v, eA g0 233 6 = v := ⟨_, rfl⟩
          have wv393 := HI.t6 hI0
          rw [hv393] at wv393
          have tv393 := congrArg Int32.toInt hv393
          have x394 := HI.eqA hI379 (p := 233) (j := 6) ((((eA_c (hF380.2.1 233 ma_X11_tell_231_233)).trans (eA_c gA_sI)).trans hv393))
          obtain ⟨v395, hv395⟩ : ∃ v, eA g0 233 2 = v := ⟨_, rfl⟩
          have tv395 := congrArg Int32.toInt hv395
          have wv395 := HI.t2 hI0
          rw [hv395] at wv395
          have tv395 := congrArg Int32.toInt hv395
          have x396 := HI.eqA hI379 (p := 233) (j := 2) ((((eA_c (hF380.2.1 233 ma_X11_tell_231_233)).trans (eA_c gA_sI)).trans hv395))
          obtain ⟨v397, hv397⟩ : ∃ v, eA g0 233 3 = v := ⟨_, rfl⟩
          have wv397 := HI.t3 hI0
          rw [hv397] at wv397
          have tv397 := congrArg Int32.toInt hv397
          have x398 := HI.eqA hI379 (p := 233) (j := 3) ((((eA_c (hF380.2.1 233 ma_X11_tell_231_233)).trans (eA_c gA_sI)).trans hv397))
          have x399 := HI.eqA hI0 (p := 233) (j := 1) (hv385)
          have x400 := HI.eqA hI0 (p := 233) (j := 0) (hv387)
          have x401 := HI.eqA hI0 (p := 233) (j := 0) (hv387)
          have x402 := HI.eqA hI0 (p := 233) (j := 4) (hv389)
          have x403 := HI.eqA hI0 (p := 233) (j := 5) (hv391)
          have x404 := HI.eqA hI0 (p := 233) (j := 6) (hv393)
          have x405 := HI.eqA hI0 (p := 233) (j := 2) (hv395)
          have x406 := HI.eqA hI0 (p := 233) (j := 3) (hv397)
          exact ⟨_, rfl, hI379, hF383, _, rfl, by omega, ⟨⟨by omega, by omega, by omega, by omega, by omega, by omega, by omega, by omega, by omega, by omega⟩, (by intro i i0 i1; refine (eA_ti (((hF380.2.1 233 ma_X11_tell_231_233).trans (gA_sI)))).trans ?_; (first | with_reducible rfl | omega | exact eA_ix (by omega) | rfl)), (by intro i i0 i1; refine (eA_ti (((hF380.2.1 233 ma_X11_tell_231_233).trans (gA_sI)))).trans ?_; (first | with_reducible rfl | omega | exact eA_ix (by omega) | rfl)), (by have kn : ¬ ((1 ≤ a1.toInt ∧ a1.toInt ≤ 9 ∧ 0 ≤ a4.toInt ∧ a4.toInt ≤ 99 ∧ 0 ≤ a5.toInt ∧ a5.toInt ≤ 9 ∧ 0 ≤ a6.toInt ∧ a6.toInt ≤ 9999) ∧ (0 ≤ a2.toInt ∧ a2.toInt < (eA g0 233 0).toInt ∧ 0 ≤ a3.toInt ∧ a3.toInt < (eA g0 233 0).toInt) ∧ (eA g0 233 1).toInt < 8) := (by omega); intro i i0 i1; refine Eq.trans ?_ (if_neg (show ¬ (((1 ≤ a1.toInt ∧ a1.toInt ≤ 9 ∧ 0 ≤ a4.toInt ∧ a4.toInt ≤ 99 ∧ 0 ≤ a5.toInt ∧ a5.toInt ≤ 9 ∧ 0 ≤ a6.toInt ∧ a6.toInt ≤ 9999) ∧ (0 ≤ a2.toInt ∧ a2.toInt < (eA g0 233 0).toInt ∧ 0 ≤ a3.toInt ∧ a3.toInt < (eA g0 233 0).toInt) ∧ (eA g0 233 1).toInt < 8) ∧ i = 46 + 6 * (eA g0 233 1).toInt + 0) from fun z => kn z.1)).symm; refine Eq.trans ?_ (if_neg (show ¬ (((1 ≤ a1.toInt ∧ a1.toInt ≤ 9 ∧ 0 ≤ a4.toInt ∧ a4.toInt ≤ 99 ∧ 0 ≤ a5.toInt ∧ a5.toInt ≤ 9 ∧ 0 ≤ a6.toInt ∧ a6.toInt ≤ 9999) ∧ (0 ≤ a2.toInt ∧ a2.toInt < (eA g0 233 0).toInt ∧ 0 ≤ a3.toInt ∧ a3.toInt < (eA g0 233 0).toInt) ∧ (eA g0 233 1).toInt < 8) ∧ i = 46 + 6 * (eA g0 233 1).toInt + 1) from fun z => kn z.1)).symm; refine Eq.trans ?_ (if_neg (show ¬ (((1 ≤ a1.toInt ∧ a1.toInt ≤ 9 ∧ 0 ≤ a4.toInt ∧ a4.toInt ≤ 99 ∧ 0 ≤ a5.toInt ∧ a5.toInt ≤ 9 ∧ 0 ≤ a6.toInt ∧ a6.toInt ≤ 9999) ∧ (0 ≤ a2.toInt ∧ a2.toInt < (eA g0 233 0).toInt ∧ 0 ≤ a3.toInt ∧ a3.toInt < (eA g0 233 0).toInt) ∧ (eA g0 233 1).toInt < 8) ∧ i = 46 + 6 * (eA g0 233 1).toInt + 2) from fun z => kn z.1)).symm; refine Eq.trans ?_ (if_neg (show ¬ (((1 ≤ a1.toInt ∧ a1.toInt ≤ 9 ∧ 0 ≤ a4.toInt ∧ a4.toInt ≤ 99 ∧ 0 ≤ a5.toInt ∧ a5.toInt ≤ 9 ∧ 0 ≤ a6.toInt ∧ a6.toInt ≤ 9999) ∧ (0 ≤ a2.toInt ∧ a2.toInt < (eA g0 233 0).toInt ∧ 0 ≤ a3.toInt ∧ a3.toInt < (eA g0 233 0).toInt) ∧ (eA g0 233 1).toInt < 8) ∧ i = 46 + 6 * (eA g0 233 1).toInt + 3) from fun z => kn z.1)).symm; refine Eq.trans ?_ (if_neg (show ¬ (((1 ≤ a1.toInt ∧ a1.toInt ≤ 9 ∧ 0 ≤ a4.toInt ∧ a4.toInt ≤ 99 ∧ 0 ≤ a5.toInt ∧ a5.toInt ≤ 9 ∧ 0 ≤ a6.toInt ∧ a6.toInt ≤ 9999) ∧ (0 ≤ a2.toInt ∧ a2.toInt < (eA g0 233 0).toInt ∧ 0 ≤ a3.toInt ∧ a3.toInt < (eA g0 233 0).toInt) ∧ (eA g0 233 1).toInt < 8) ∧ i = 46 + 6 * (eA g0 233 1).toInt + 4) from fun z => kn z.1)).symm; refine Eq.trans ?_ (if_neg (show ¬ (((1 ≤ a1.toInt ∧ a1.toInt ≤ 9 ∧ 0 ≤ a4.toInt ∧ a4.toInt ≤ 99 ∧ 0 ≤ a5.toInt ∧ a5.toInt ≤ 9 ∧ 0 ≤ a6.toInt ∧ a6.toInt ≤ 9999) ∧ (0 ≤ a2.toInt ∧ a2.toInt < (eA g0 233 0).toInt ∧ 0 ≤ a3.toInt ∧ a3.toInt < (eA g0 233 0).toInt) ∧ (eA g0 233 1).toInt < 8) ∧ i = 46 + 6 * (eA g0 233 1).toInt + 5) from fun z => kn z.1)).symm; refine (eA_ti (((hF380.2.1 233 ma_X11_tell_231_233).trans (gA_sI)))).trans ?_; (first | with_reducible rfl | omega | exact eA_ix (by omega) | rfl))⟩⟩
        · have c377_ : v346.toInt ≤ 99 := en_j_gt_f c377
          refine At.enter rfl ?_
          refine r_iconst 1 rfl ?_
          refine r_goto ?_
          refine At.enter rfl ?_
          refine q_iretz (by decide) ?_
          refine At.enter rfl ?_
          refine r_iff 24 rfl (by decide) ?_
          refine At.enter rfl ?_
          refine r_iload_n rfl ?_
          refine q_i2l (fun v407 hv407 => ?_)
          refine r_lconst 0 rfl ?_
          refine r_ldc2 9 rfl ?_
          refine q_inlS 33 rfl [.long v407, .long 0, .long 9] [] (Nat.le_of_ble_eq_true rfl) rfl ?_
          refine Ev.mk rfl rfl ⟨Nat.le_of_ble_eq_true rfl, Or.inl rfl⟩ ?_
          show At _ none _ _ (0, [(0, .long v407), (2, .long 0), (4, .long 9)], [], (_, _)) _
          refine At.enter rfl ?_
          refine r_lload_n rfl ?_
          refine r_lload_n rfl ?_
          refine r_lcmp _ rfl ?_
          refine r_ifs 6 rfl (fun c408 => ?_) (fun c408 => ?_)
          · have c408_ : v407.toInt < 0 := en_j_lt_t c408
            refine At.enter rfl ?_
            refine r_iconst 0 rfl ?_
            refine Ar.fall 18 rfl ?_
            refine At.enter rfl ?_
            refine q_iretz (by decide) ?_
            refine At.enter rfl ?_
            refine r_ift (by decide) ?_
            refine At.enter rfl ?_
            refine r_iconst 0 rfl ?_
            refine Ar.fall 53 rfl ?_
            refine At.enter rfl ?_
            refine q_iretz (by decide) ?_
            refine At.enter rfl ?_
            refine r_iff 18 rfl (by decide) ?_
            refine At.enter rfl ?_
            refine r_aload_n rfl ?_
            refine r_iconst (-1) rfl ?_
            refine r_callV 23 rfl [.ref 231, .int (-1)] [] (Nat.le_of_ble_eq_true rfl) rfl (T_X11_tell_231 _ hI283 (-1) (by decide)) ?_
            rintro _ _ ⟨g409, rfl, hI410, hF411, v412, rfl, hr413⟩
            refine At.sti ?_
            have hF414 := Fr.tr hF284 hF411 rfl rfl
            have zv415 : ((-1) : Int32).toInt = (-1) := rfl
            refine At.enter rfl ?_
            refine r_ireti ?_
            obtain ⟨v416, hv416⟩ : ∃ v, eA g0 233 1 = v := ⟨_, rfl⟩
            have tv416 := congrArg Int32.toInt hv416
            have wv416 := HI.t1 hI0
            rw [hv416] at wv416
            have tv416 := congrArg Int32.toInt hv416
            have x417 := HI.eqA hI410 (p := 233) (j := 1) ((((eA_c (hF411.2.1 233 ma_X11_tell_231_233)).trans (eA_c gA_sI)).trans hv416))
            obtain ⟨v418, hv418⟩ : ∃ v, eA g0 233 0 = v := ⟨_, rfl⟩
            have tv418 := congrArg Int32.toInt hv418
            have wv418 := HI.t0 hI0
            rw [hv418] at wv418
            have tv418 := congrArg Int32.toInt hv418
            have x419 := HI.eqA hI410 (p := 233) (j := 0) ((((eA_c (hF411.2.1 233 ma_X11_tell_231_233)).trans (eA_c gA_sI)).trans hv418))
            obtain ⟨v420, hv420⟩ : ∃ v, eA g0 233 4 = v := ⟨_, rfl⟩
            have wv420 := HI.t4 hI0
            rw [hv420] at wv420
            have tv420 := congrArg Int32.toInt hv420
            have x421 := HI.eqA hI410 (p := 233) (j := 4) ((((eA_c (hF411.2.1 233 ma_X11_tell_231_233)).trans (eA_c gA_sI)).trans hv420))
            obtain ⟨v422, hv422⟩ : ∃ v, eA g0 233 5 = v := ⟨_, rfl⟩
            have wv422 := HI.t5 hI0
            rw [hv422] at wv422
            have tv422 := congrArg Int32.toInt hv422
            have x423 := HI.eqA hI410 (p := 233) (j := 5) ((((eA_c (hF411.2.1 233 ma_X11_tell_231_233)).trans (eA_c gA_sI)).trans hv422))
            obtain ⟨v424, hv424⟩ : ∃ v, eA g0 233 6 = v := ⟨_, rfl⟩
            have wv424 := HI.t6 hI0
            rw [hv424] at wv424
            have tv424 := congrArg Int32.toInt hv424
            have x425 := HI.eqA hI410 (p := 233) (j := 6) ((((eA_c (hF411.2.1 233 ma_X11_tell_231_233)).trans (eA_c gA_sI)).trans hv424))
            obtain ⟨v426, hv426⟩ : ∃ v, eA g0 233 2 = v := ⟨_, rfl⟩
            have tv426 := congrArg Int32.toInt hv426
            have wv426 := HI.t2 hI0
            rw [hv426] at wv426
            have tv426 := congrArg Int32.toInt hv426
            have x427 := HI.eqA hI410 (p := 233) (j := 2) ((((eA_c (hF411.2.1 233 ma_X11_tell_231_233)).trans (eA_c gA_sI)).trans hv426))
            obtain ⟨v428, hv428⟩ : ∃ v, eA g0 233 3 = v := ⟨_, rfl⟩
            have wv428 := HI.t3 hI0
            rw [hv428] at wv428
            have tv428 := congrArg Int32.toInt hv428
            have x429 := HI.eqA hI410 (p := 233) (j := 3) ((((eA_c (hF411.2.1 233 ma_X11_tell_231_233)).trans (eA_c gA_sI)).trans hv428))
            have x430 := HI.eqA hI0 (p := 233) (j := 1) (hv416)
            have x431 := HI.eqA hI0 (p := 233) (j := 0) (hv418)
            have x432 := HI.eqA hI0 (p := 233) (j := 0) (hv418)
            have x433 := HI.eqA hI0 (p := 233) (j := 4) (hv420)
            have x434 := HI.eqA hI0 (p := 233) (j := 5) (hv422)
            have x435 := HI.eqA hI0 (p := 233) (j := 6) (hv424)
            have x436 := HI.eqA hI0 (p := 233) (j := 2) (hv426)
            have x437 := HI.eqA hI0 (p := 233) (j := 3) (hv428)
            exact ⟨_, rfl, hI410, hF414, _, rfl, by omega, ⟨⟨by omega, by omega, by omega, by omega, by omega, by omega, by omega, by omega, by omega, by omega⟩, (by intro i i0 i1; refine (eA_ti (((hF411.2.1 233 ma_X11_tell_231_233).trans (gA_sI)))).trans ?_; (first | with_reducible rfl | omega | exact eA_ix (by omega) | rfl)), (by intro i i0 i1; refine (eA_ti (((hF411.2.1 233 ma_X11_tell_231_233).trans (gA_sI)))).trans ?_; (first | with_reducible rfl | omega | exact eA_ix (by omega) | rfl)), (by have kn : ¬ ((1 ≤ a1.toInt ∧ a1.toInt ≤ 9 ∧ 0 ≤ a4.toInt ∧ a4.toInt ≤ 99 ∧ 0 ≤ a5.toInt ∧ a5.toInt ≤ 9 ∧ 0 ≤ a6.toInt ∧ a6.toInt ≤ 9999) ∧ (0 ≤ a2.toInt ∧ a2.toInt < (eA g0 233 0).toInt ∧ 0 ≤ a3.toInt ∧ a3.toInt < (eA g0 233 0).toInt) ∧ (eA g0 233 1).toInt < 8) := (by omega); intro i i0 i1; refine Eq.trans ?_ (if_neg (show ¬ (((1 ≤ a1.toInt ∧ a1.toInt ≤ 9 ∧ 0 ≤ a4.toInt ∧ a4.toInt ≤ 99 ∧ 0 ≤ a5.toInt ∧ a5.toInt ≤ 9 ∧ 0 ≤ a6.toInt ∧ a6.toInt ≤ 9999) ∧ (0 ≤ a2.toInt ∧ a2.toInt < (eA g0 233 0).toInt ∧ 0 ≤ a3.toInt ∧ a3.toInt < (eA g0 233 0).toInt) ∧ (eA g0 233 1).toInt < 8) ∧ i = 46 + 6 * (eA g0 233 1).toInt + 0) from fun z => kn z.1)).symm; refine Eq.trans ?_ (if_neg (show ¬ (((1 ≤ a1.toInt ∧ a1.toInt ≤ 9 ∧ 0 ≤ a4.toInt ∧ a4.toInt ≤ 99 ∧ 0 ≤ a5.toInt ∧ a5.toInt ≤ 9 ∧ 0 ≤ a6.toInt ∧ a6.toInt ≤ 9999) ∧ (0 ≤ a2.toInt ∧ a2.toInt < (eA g0 233 0).toInt ∧ 0 ≤ a3.toInt ∧ a3.toInt < (eA g0 233 0).toInt) ∧ (eA g0 233 1).toInt < 8) ∧ i = 46 + 6 * (eA g0 233 1).toInt + 1) from fun z => kn z.1)).symm; refine Eq.trans ?_ (if_neg (show ¬ (((1 ≤ a1.toInt ∧ a1.toInt ≤ 9 ∧ 0 ≤ a4.toInt ∧ a4.toInt ≤ 99 ∧ 0 ≤ a5.toInt ∧ a5.toInt ≤ 9 ∧ 0 ≤ a6.toInt ∧ a6.toInt ≤ 9999) ∧ (0 ≤ a2.toInt ∧ a2.toInt < (eA g0 233 0).toInt ∧ 0 ≤ a3.toInt ∧ a3.toInt < (eA g0 233 0).toInt) ∧ (eA g0 233 1).toInt < 8) ∧ i = 46 + 6 * (eA g0 233 1).toInt + 2) from fun z => kn z.1)).symm; refine Eq.trans ?_ (if_neg (show ¬ (((1 ≤ a1.toInt ∧ a1.toInt ≤ 9 ∧ 0 ≤ a4.toInt ∧ a4.toInt ≤ 99 ∧ 0 ≤ a5.toInt ∧ a5.toInt ≤ 9 ∧ 0 ≤ a6.toInt ∧ a6.toInt ≤ 9999) ∧ (0 ≤ a2.toInt ∧ a2.toInt < (eA g0 233 0).toInt ∧ 0 ≤ a3.toInt ∧ a3.toInt < (eA g0 233 0).toInt) ∧ (eA g0 233 1).toInt < 8) ∧ i = 46 + 6 * (eA g0 233 1).toInt + 3) from fun z => kn z.1)).symm; refine Eq.trans ?_ (if_neg (show ¬ (((1 ≤ a1.toInt ∧ a1.toInt ≤ 9 ∧ 0 ≤ a4.toInt ∧ a4.toInt ≤ 99 ∧ 0 ≤ a5.toInt ∧ a5.toInt ≤ 9 ∧ 0 ≤ a6.toInt ∧ a6.toInt ≤ 9999) ∧ (0 ≤ a2.toInt ∧ a2.toInt < (eA g0 233 0).toInt ∧ 0 ≤ a3.toInt ∧ a3.toInt < (eA g0 233 0).toInt) ∧ (eA g0 233 1).toInt < 8) ∧ i = 46 + 6 * (eA g0 233 1).toInt + 4) from fun z => kn z.1)).symm; refine Eq.trans ?_ (if_neg (show ¬ (((1 ≤ a1.toInt ∧ a1.toInt ≤ 9 ∧ 0 ≤ a4.toInt ∧ a4.toInt ≤ 99 ∧ 0 ≤ a5.toInt ∧ a5.toInt ≤ 9 ∧ 0 ≤ a6.toInt ∧ a6.toInt ≤ 9999) ∧ (0 ≤ a2.toInt ∧ a2.toInt < (eA g0 233 0).toInt ∧ 0 ≤ a3.toInt ∧ a3.toInt < (eA g0 233 0).toInt) ∧ (eA g0 233 1).toInt < 8) ∧ i = 46 + 6 * (eA g0 233 1).toInt + 5) from fun z => kn z.1)).symm; refine (eA_ti (((hF411.2.1 233 ma_X11_tell_231_233).trans (gA_sI)))).trans ?_; (first | with_reducible rfl | omega | exact eA_ix (by omega) | rfl))⟩⟩
          · have c408_ : v407.toInt ≥ 0 := en_j_lt_f c408
            refine At.enter rfl ?_
            refine r_lload_n rfl ?_
            refine r_lload rfl ?_
            refine r_lcmp _ rfl ?_
            refine r_ifs 13 rfl (fun c438 => ?_) (fun c438 => ?_)
            · have c438_ : v407.toInt > 9 := en_j_gt_t c438
              refine At.enter rfl ?_
              refine r_iconst 0 rfl ?_
              refine Ar.fall 18 rfl ?_
              refine At.enter rfl ?_
              refine q_iretz (by decide) ?_
              refine At.enter rfl ?_
              refine r_ift (by decide) ?_
              refine At.enter rfl ?_
              refine r_iconst 0 rfl ?_
              refine Ar.fall 53 rfl ?_
              refine At.enter rfl ?_
              refine q_iretz (by decide) ?_
              refine At.enter rfl ?_
              refine r_iff 18 rfl (by decide) ?_
              refine At.enter rfl ?_
              refine r_aload_n rfl ?_
              refine r_iconst (-1) rfl ?_
              refine r_callV 23 rfl [.ref 231, .int (-1)] [] (Nat.le_of_ble_eq_true rfl) rfl (T_X11_tell_231 _ hI283 (-1) (by decide)) ?_
              rintro _ _ ⟨g439, rfl, hI440, hF441, v442, rfl, hr443⟩
              refine At.sti ?_
              have hF444 := Fr.tr hF284 hF441 rfl rfl
              have zv445 : ((-1) : Int32).toInt = (-1) := rfl
              refine At.enter rfl ?_
              refine r_ireti ?_
              obtain ⟨v446, hv446⟩ : ∃ v, eA g0 233 1 = v := ⟨_, rfl⟩
              have tv446 := congrArg Int32.toInt hv446
              have wv446 := HI.t1 hI0
              rw [hv446] at wv446
              have tv446 := congrArg Int32.toInt hv446
              have x447 := HI.eqA hI440 (p := 233) (j := 1) ((((eA_c (hF441.2.1 233 ma_X11_tell_231_233)).trans (eA_c gA_sI)).trans hv446))
              obtain ⟨v448, hv448⟩ : ∃ v, eA g0 233 0 = v := ⟨_, rfl⟩
              have tv448 := congrArg Int32.toInt hv448
              have wv448 := HI.t0 hI0
              rw [hv448] at wv448
              have tv448 := congrArg Int32.toInt hv448
              have x449 := HI.eqA hI440 (p := 233) (j := 0) ((((eA_c (hF441.2.1 233 ma_X11_tell_231_233)).trans (eA_c gA_sI)).trans hv448))
              obtain ⟨v450, hv450⟩ : ∃ v, eA g0 233 4 = v := ⟨_, rfl⟩
              have wv450 := HI.t4 hI0
              rw [hv450] at wv450
              have tv450 := congrArg Int32.toInt hv450
              have x451 := HI.eqA hI440 (p := 233) (j := 4) ((((eA_c (hF441.2.1 233 ma_X11_tell_231_233)).trans (eA_c gA_sI)).trans hv450))
              obtain ⟨v452, hv452⟩ : ∃ v, eA g0 233 5 = v := ⟨_, rfl⟩
              have wv452 := HI.t5 hI0
              rw [hv452] at wv452
              have tv452 := congrArg Int32.toInt hv452
              have x453 := HI.eqA hI440 (p := 233) (j := 5) ((((eA_c (hF441.2.1 233 ma_X11_tell_231_233)).trans (eA_c gA_sI)).trans hv452))
              obtain ⟨v454, hv454⟩ : ∃ v, eA g0 233 6 = v := ⟨_, rfl⟩
              have wv454 := HI.t6 hI0
              rw [hv454] at wv454
              have tv454 := congrArg Int32.toInt hv454
              have x455 := HI.eqA hI440 (p := 233) (j := 6) ((((eA_c (hF441.2.1 233 ma_X11_tell_231_233)).trans (eA_c gA_sI)).trans hv454))
              obtain ⟨v456, hv456⟩ : ∃ v, eA g0 233 2 = v := ⟨_, rfl⟩
              have tv456 := congrArg Int32.toInt hv456
              have wv456 := HI.t2 hI0
              rw [hv456] at wv456
              have tv456 := congrArg Int32.toInt hv456
              have x457 := HI.eqA hI440 (p := 233) (j := 2) ((((eA_c (hF441.2.1 233 ma_X11_tell_231_233)).trans (eA_c gA_sI)).trans hv456))
              obtain ⟨v458, hv458⟩ : ∃ v, eA g0 233 3 = v := ⟨_, rfl⟩
              have wv458 := HI.t3 hI0
              rw [hv458] at wv458
              have tv458 := congrArg Int32.toInt hv458
              have x459 := HI.eqA hI440 (p := 233) (j := 3) ((((eA_c (hF441.2.1 233 ma_X11_tell_231_233)).trans (eA_c gA_sI)).trans hv458))
              have x460 := HI.eqA hI0 (p := 233) (j := 1) (hv446)
              have x461 := HI.eqA hI0 (p := 233) (j := 0) (hv448)
              have x462 := HI.eqA hI0 (p := 233) (j := 0) (hv448)
              have x463 := HI.eqA hI0 (p := 233) (j := 4) (hv450)
              have x464 := HI.eqA hI0 (p := 233) (j := 5) (hv452)
              have x465 := HI.eqA hI0 (p := 233) (j := 6) (hv454)
              have x466 := HI.eqA hI0 (p := 233) (j := 2) (hv456)
              have x467 := HI.eqA hI0 (p := 233) (j := 3) (hv458)
              exact ⟨_, rfl, hI440, hF444, _, rfl, by omega, ⟨⟨by omega, by omega, by omega, by omega, by omega, by omega, by omega, by omega, by omega, by omega⟩, (by intro i i0 i1; refine (eA_ti (((hF441.2.1 233 ma_X11_tell_231_233).trans (gA_sI)))).trans ?_; (first | with_reducible rfl | omega | exact eA_ix (by omega) | rfl)), (by intro i i0 i1; refine (eA_ti (((hF441.2.1 233 ma_X11_tell_231_233).trans (gA_sI)))).trans ?_; (first | with_reducible rfl | omega | exact eA_ix (by omega) | rfl)), (by have kn : ¬ ((1 ≤ a1.toInt ∧ a1.toInt ≤ 9 ∧ 0 ≤ a4.toInt ∧ a4.toInt ≤ 99 ∧ 0 ≤ a5.toInt ∧ a5.toInt ≤ 9 ∧ 0 ≤ a6.toInt ∧ a6.toInt ≤ 9999) ∧ (0 ≤ a2.toInt ∧ a2.toInt < (eA g0 233 0).toInt ∧ 0 ≤ a3.toInt ∧ a3.toInt < (eA g0 233 0).toInt) ∧ (eA g0 233 1).toInt < 8) := (by omega); intro i i0 i1; refine Eq.trans ?_ (if_neg (show ¬ (((1 ≤ a1.toInt ∧ a1.toInt ≤ 9 ∧ 0 ≤ a4.toInt ∧ a4.toInt ≤ 99 ∧ 0 ≤ a5.toInt ∧ a5.toInt ≤ 9 ∧ 0 ≤ a6.toInt ∧ a6.toInt ≤ 9999) ∧ (0 ≤ a2.toInt ∧ a2.toInt < (eA g0 233 0).toInt ∧ 0 ≤ a3.toInt ∧ a3.toInt < (eA g0 233 0).toInt) ∧ (eA g0 233 1).toInt < 8) ∧ i = 46 + 6 * (eA g0 233 1).toInt + 0) from fun z => kn z.1)).symm; refine Eq.trans ?_ (if_neg (show ¬ (((1 ≤ a1.toInt ∧ a1.toInt ≤ 9 ∧ 0 ≤ a4.toInt ∧ a4.toInt ≤ 99 ∧ 0 ≤ a5.toInt ∧ a5.toInt ≤ 9 ∧ 0 ≤ a6.toInt ∧ a6.toInt ≤ 9999) ∧ (0 ≤ a2.toInt ∧ a2.toInt < (eA g0 233 0).toInt ∧ 0 ≤ a3.toInt ∧ a3.toInt < (eA g0 233 0).toInt) ∧ (eA g0 233 1).toInt < 8) ∧ i = 46 + 6 * (eA g0 233 1).toInt + 1) from fun z => kn z.1)).symm; refine Eq.trans ?_ (if_neg (show ¬ (((1 ≤ a1.toInt ∧ a1.toInt ≤ 9 ∧ 0 ≤ a4.toInt ∧ a4.toInt ≤ 99 ∧ 0 ≤ a5.toInt ∧ a5.toInt ≤ 9 ∧ 0 ≤ a6.toInt ∧ a6.toInt ≤ 9999) ∧ (0 ≤ a2.toInt ∧ a2.toInt < (eA g0 233 0).toInt ∧ 0 ≤ a3.toInt ∧ a3.toInt < (eA g0 233 0).toInt) ∧ (eA g0 233 1).toInt < 8) ∧ i = 46 + 6 * (eA g0 233 1).toInt + 2) from fun z => kn z.1)).symm; refine Eq.trans ?_ (if_neg (show ¬ (((1 ≤ a1.toInt ∧ a1.toInt ≤ 9 ∧ 0 ≤ a4.toInt ∧ a4.toInt ≤ 99 ∧ 0 ≤ a5.toInt ∧ a5.toInt ≤ 9 ∧ 0 ≤ a6.toInt ∧ a6.toInt ≤ 9999) ∧ (0 ≤ a2.toInt ∧ a2.toInt < (eA g0 233 0).toInt ∧ 0 ≤ a3.toInt ∧ a3.toInt < (eA g0 233 0).toInt) ∧ (eA g0 233 1).toInt < 8) ∧ i = 46 + 6 * (eA g0 233 1).toInt + 3) from fun z => kn z.1)).symm; refine Eq.trans ?_ (if_neg (show ¬ (((1 ≤ a1.toInt ∧ a1.toInt ≤ 9 ∧ 0 ≤ a4.toInt ∧ a4.toInt ≤ 99 ∧ 0 ≤ a5.toInt ∧ a5.toInt ≤ 9 ∧ 0 ≤ a6.toInt ∧ a6.toInt ≤ 9999) ∧ (0 ≤ a2.toInt ∧ a2.toInt < (eA g0 233 0).toInt ∧ 0 ≤ a3.toInt ∧ a3.toInt < (eA g0 233 0).toInt) ∧ (eA g0 233 1).toInt < 8) ∧ i = 46 + 6 * (eA g0 233 1).toInt + 4) from fun z => kn z.1)).symm; refine Eq.trans ?_ (if_neg (show ¬ (((1 ≤ a1.toInt ∧ a1.toInt ≤ 9 ∧ 0 ≤ a4.toInt ∧ a4.toInt ≤ 99 ∧ 0 ≤ a5.toInt ∧ a5.toInt ≤ 9 ∧ 0 ≤ a6.toInt ∧ a6.toInt ≤ 9999) ∧ (0 ≤ a2.toInt ∧ a2.toInt < (eA g0 233 0).toInt ∧ 0 ≤ a3.toInt ∧ a3.toInt < (eA g0 233 0).toInt) ∧ (eA g0 233 1).toInt < 8) ∧ i = 46 + 6 * (eA g0 233 1).toInt + 5) from fun z => kn z.1)).symm; refine (eA_ti (((hF441.2.1 233 ma_X11_tell_231_233).trans (gA_sI)))).trans ?_; (first | with_reducible rfl | omega | exact eA_ix (by omega) | rfl))⟩⟩
            · have c438_ : v407.toInt ≤ 9 := en_j_gt_f c438
              refine At.enter rfl ?_
              refine r_iconst 1 rfl ?_
              refine r_goto ?_
              refine At.enter rfl ?_
              refine q_iretz (by decide) ?_
              refine At.enter rfl ?_
              refine r_iff 36 rfl (by decide) ?_
              refine At.enter rfl ?_
              refine r_iload_n rfl ?_
              refine q_i2l (fun v468 hv468 => ?_)
              refine r_lconst 0 rfl ?_
              refine r_ldc2 9999 rfl ?_
              refine q_inlS 45 rfl [.long v468, .long 0, .long 9999] [] (Nat.le_of_ble_eq_true rfl) rfl ?_
              refine Ev.mk rfl rfl ⟨Nat.le_of_ble_eq_true rfl, Or.inl rfl⟩ ?_
              show At _ none _ _ (0, [(0, .long v468), (2, .long 0), (4, .long 9999)], [], (_, _)) _
              refine At.enter rfl ?_
              refine r_lload_n rfl ?_
              refine r_lload_n rfl ?_
              refine r_lcmp _ rfl ?_
              refine r_ifs 6 rfl (fun c469 => ?_) (fun c469 => ?_)
              · have c469_ : v468.toInt < 0 := en_j_lt_t c469
                refine At.enter rfl ?_
                refine r_iconst 0 rfl ?_
                refine Ar.fall 18 rfl ?_
                refine At.enter rfl ?_
                refine q_iretz (by decide) ?_
                refine At.enter rfl ?_
                refine r_ift (by decide) ?_
                refine At.enter rfl ?_
                refine r_iconst 0 rfl ?_
                refine Ar.fall 53 rfl ?_
                refine At.enter rfl ?_
                refine q_iretz (by decide) ?_
                refine At.enter rfl ?_
                refine r_iff 18 rfl (by decide) ?_
                refine At.enter rfl ?_
                refine r_aload_n rfl ?_
                refine r_iconst (-1) rfl ?_
                refine r_callV 23 rfl [.ref 231, .int (-1)] [] (Nat.le_of_ble_eq_true rfl) rfl (T_X11_tell_231 _ hI283 (-1) (by decide)) ?_
                rintro _ _ ⟨g470, rfl, hI471, hF472, v473, rfl, hr474⟩
                refine At.sti ?_
                have hF475 := Fr.tr hF284 hF472 rfl rfl
                have zv476 : ((-1) : Int32).toInt = (-1) := rfl
                refine At.enter rfl ?_
                refine r_ireti ?_
                obtain ⟨v477, hv477⟩ : ∃ v, eA g0 233 1 = v := ⟨_, rfl⟩
                have tv477 := congrArg Int32.toInt hv477
                have wv477 := HI.t1 hI0
                rw [hv477] at wv477
                have tv477 := congrArg Int32.toInt hv477
                have x478 := HI.eqA hI471 (p := 233) (j := 1) ((((eA_c (hF472.2.1 233 ma_X11_tell_231_233)).trans (eA_c gA_sI)).trans hv477))
                obtain ⟨v479, hv479⟩ : ∃ v, eA g0 233 0 = v := ⟨_, rfl⟩
                have tv479 := congrArg Int32.toInt hv479
                have wv479 := HI.t0 hI0
                rw [hv479] at wv479
                have tv479 := congrArg Int32.toInt hv479
                have x480 := HI.eqA hI471 (p := 233) (j := 0) ((((eA_c (hF472.2.1 233 ma_X11_tell_231_233)).trans (eA_c gA_sI)).trans hv479))
                obtain ⟨v481, hv481⟩ : ∃ v, eA g0 233 4 = v := ⟨_, rfl⟩
                have wv481 := HI.t4 hI0
                rw [hv481] at wv481
                have tv481 := congrArg Int32.toInt hv481
                have x482 := HI.eqA hI471 (p := 233) (j := 4) ((((eA_c (hF472.2.1 233 ma_X11_tell_231_233)).trans (eA_c gA_sI)).trans hv481))
                obtain ⟨v483, hv483⟩ : ∃ v, eA g0 233 5 = v := ⟨_, rfl⟩
                have wv483 := HI.t5 hI0
                rw [hv483] at wv483
                have tv483 := congrArg Int32.toInt hv483
                have x484 := HI.eqA hI471 (p := 233) (j := 5) ((((eA_c (hF472.2.1 233 ma_X11_tell_231_233)).trans (eA_c gA_sI)).trans hv483))
                obtain ⟨v485, hv485⟩ : ∃ v, eA g0 233 6 = v := ⟨_, rfl⟩
                have wv485 := HI.t6 hI0
                rw [hv485] at wv485
                have tv485 := congrArg Int32.toInt hv485
                have x486 := HI.eqA hI471 (p := 233) (j := 6) ((((eA_c (hF472.2.1 233 ma_X11_tell_231_233)).trans (eA_c gA_sI)).trans hv485))
                obtain ⟨v487, hv487⟩ : ∃ v, eA g0 233 2 = v := ⟨_, rfl⟩
                have tv487 := congrArg Int32.toInt hv487
                have wv487 := HI.t2 hI0
                rw [hv487] at wv487
                have tv487 := congrArg Int32.toInt hv487
                have x488 := HI.eqA hI471 (p := 233) (j := 2) ((((eA_c (hF472.2.1 233 ma_X11_tell_231_233)).trans (eA_c gA_sI)).trans hv487))
                obtain ⟨v489, hv489⟩ : ∃ v, eA g0 233 3 = v := ⟨_, rfl⟩
                have wv489 := HI.t3 hI0
                rw [hv489] at wv489
                have tv489 := congrArg Int32.toInt hv489
                have x490 := HI.eqA hI471 (p := 233) (j := 3) ((((eA_c (hF472.2.1 233 ma_X11_tell_231_233)).trans (eA_c gA_sI)).trans hv489))
                have x491 := HI.eqA hI0 (p := 233) (j := 1) (hv477)
                have x492 := HI.eqA hI0 (p := 233) (j := 0) (hv479)
                have x493 := HI.eqA hI0 (p := 233) (j := 0) (hv479)
                have x494 := HI.eqA hI0 (p := 233) (j := 4) (hv481)
                have x495 := HI.eqA hI0 (p := 233) (j := 5) (hv483)
                have x496 := HI.eqA hI0 (p := 233) (j := 6) (hv485)
                have x497 := HI.eqA hI0 (p := 233) (j := 2) (hv487)
                have x498 := HI.eqA hI0 (p := 233) (j := 3) (hv489)
                exact ⟨_, rfl, hI471, hF475, _, rfl, by omega, ⟨⟨by omega, by omega, by omega, by omega, by omega, by omega, by omega, by omega, by omega, by omega⟩, (by intro i i0 i1; refine (eA_ti (((hF472.2.1 233 ma_X11_tell_231_233).trans (gA_sI)))).trans ?_; (first | with_reducible rfl | omega | exact eA_ix (by omega) | rfl)), (by intro i i0 i1; refine (eA_ti (((hF472.2.1 233 ma_X11_tell_231_233).trans (gA_sI)))).trans ?_; (first | with_reducible rfl | omega | exact eA_ix (by omega) | rfl)), (by have kn : ¬ ((1 ≤ a1.toInt ∧ a1.toInt ≤ 9 ∧ 0 ≤ a4.toInt ∧ a4.toInt ≤ 99 ∧ 0 ≤ a5.toInt ∧ a5.toInt ≤ 9 ∧ 0 ≤ a6.toInt ∧ a6.toInt ≤ 9999) ∧ (0 ≤ a2.toInt ∧ a2.toInt < (eA g0 233 0).toInt ∧ 0 ≤ a3.toInt ∧ a3.toInt < (eA g0 233 0).toInt) ∧ (eA g0 233 1).toInt < 8) := (by omega); intro i i0 i1; refine Eq.trans ?_ (if_neg (show ¬ (((1 ≤ a1.toInt ∧ a1.toInt ≤ 9 ∧ 0 ≤ a4.toInt ∧ a4.toInt ≤ 99 ∧ 0 ≤ a5.toInt ∧ a5.toInt ≤ 9 ∧ 0 ≤ a6.toInt ∧ a6.toInt ≤ 9999) ∧ (0 ≤ a2.toInt ∧ a2.toInt < (eA g0 233 0).toInt ∧ 0 ≤ a3.toInt ∧ a3.toInt < (eA g0 233 0).toInt) ∧ (eA g0 233 1).toInt < 8) ∧ i = 46 + 6 * (eA g0 233 1).toInt + 0) from fun z => kn z.1)).symm; refine Eq.trans ?_ (if_neg (show ¬ (((1 ≤ a1.toInt ∧ a1.toInt ≤ 9 ∧ 0 ≤ a4.toInt ∧ a4.toInt ≤ 99 ∧ 0 ≤ a5.toInt ∧ a5.toInt ≤ 9 ∧ 0 ≤ a6.toInt ∧ a6.toInt ≤ 9999) ∧ (0 ≤ a2.toInt ∧ a2.toInt < (eA g0 233 0).toInt ∧ 0 ≤ a3.toInt ∧ a3.toInt < (eA g0 233 0).toInt) ∧ (eA g0 233 1).toInt < 8) ∧ i = 46 + 6 * (eA g0 233 1).toInt + 1) from fun z => kn z.1)).symm; refine Eq.trans ?_ (if_neg (show ¬ (((1 ≤ a1.toInt ∧ a1.toInt ≤ 9 ∧ 0 ≤ a4.toInt ∧ a4.toInt ≤ 99 ∧ 0 ≤ a5.toInt ∧ a5.toInt ≤ 9 ∧ 0 ≤ a6.toInt ∧ a6.toInt ≤ 9999) ∧ (0 ≤ a2.toInt ∧ a2.toInt < (eA g0 233 0).toInt ∧ 0 ≤ a3.toInt ∧ a3.toInt < (eA g0 233 0).toInt) ∧ (eA g0 233 1).toInt < 8) ∧ i = 46 + 6 * (eA g0 233 1).toInt + 2) from fun z => kn z.1)).symm; refine Eq.trans ?_ (if_neg (show ¬ (((1 ≤ a1.toInt ∧ a1.toInt ≤ 9 ∧ 0 ≤ a4.toInt ∧ a4.toInt ≤ 99 ∧ 0 ≤ a5.toInt ∧ a5.toInt ≤ 9 ∧ 0 ≤ a6.toInt ∧ a6.toInt ≤ 9999) ∧ (0 ≤ a2.toInt ∧ a2.toInt < (eA g0 233 0).toInt ∧ 0 ≤ a3.toInt ∧ a3.toInt < (eA g0 233 0).toInt) ∧ (eA g0 233 1).toInt < 8) ∧ i = 46 + 6 * (eA g0 233 1).toInt + 3) from fun z => kn z.1)).symm; refine Eq.trans ?_ (if_neg (show ¬ (((1 ≤ a1.toInt ∧ a1.toInt ≤ 9 ∧ 0 ≤ a4.toInt ∧ a4.toInt ≤ 99 ∧ 0 ≤ a5.toInt ∧ a5.toInt ≤ 9 ∧ 0 ≤ a6.toInt ∧ a6.toInt ≤ 9999) ∧ (0 ≤ a2.toInt ∧ a2.toInt < (eA g0 233 0).toInt ∧ 0 ≤ a3.toInt ∧ a3.toInt < (eA g0 233 0).toInt) ∧ (eA g0 233 1).toInt < 8) ∧ i = 46 + 6 * (eA g0 233 1).toInt + 4) from fun z => kn z.1)).symm; refine Eq.trans ?_ (if_neg (show ¬ (((1 ≤ a1.toInt ∧ a1.toInt ≤ 9 ∧ 0 ≤ a4.toInt ∧ a4.toInt ≤ 99 ∧ 0 ≤ a5.toInt ∧ a5.toInt ≤ 9 ∧ 0 ≤ a6.toInt ∧ a6.toInt ≤ 9999) ∧ (0 ≤ a2.toInt ∧ a2.toInt < (eA g0 233 0).toInt ∧ 0 ≤ a3.toInt ∧ a3.toInt < (eA g0 233 0).toInt) ∧ (eA g0 233 1).toInt < 8) ∧ i = 46 + 6 * (eA g0 233 1).toInt + 5) from fun z => kn z.1)).symm; refine (eA_ti (((hF472.2.1 233 ma_X11_tell_231_233).trans (gA_sI)))).trans ?_; (first | with_reducible rfl | omega | exact eA_ix (by omega) | rfl))⟩⟩
              · have c469_ : v468.toInt ≥ 0 := en_j_lt_f c469
                refine At.enter rfl ?_
                refine r_lload_n rfl ?_
                refine r_lload rfl ?_
                refine r_lcmp _ rfl ?_
                refine r_ifs 13 rfl (fun c499 => ?_) (fun c499 => ?_)
                · have c499_ : v468.toInt > 9999 := en_j_gt_t c499
                  refine At.enter rfl ?_
                  refine r_iconst 0 rfl ?_
                  refine Ar.fall 18 rfl ?_
                  refine At.enter rfl ?_
                  refine q_iretz (by decide) ?_
                  refine At.enter rfl ?_
                  refine r_ift (by decide) ?_
                  refine At.enter rfl ?_
                  refine r_iconst 0 rfl ?_
                  refine Ar.fall 53 rfl ?_
                  refine At.enter rfl ?_
                  refine q_iretz (by decide) ?_
                  refine At.enter rfl ?_
                  refine r_iff 18 rfl (by decide) ?_
                  refine At.enter rfl ?_
                  refine r_aload_n rfl ?_
                  refine r_iconst (-1) rfl ?_
                  refine r_callV 23 rfl [.ref 231, .int (-1)] [] (Nat.le_of_ble_eq_true rfl) rfl (T_X11_tell_231 _ hI283 (-1) (by decide)) ?_
                  rintro _ _ ⟨g500, rfl, hI501, hF502, v503, rfl, hr504⟩
                  refine At.sti ?_
                  have hF505 := Fr.tr hF284 hF502 rfl rfl
                  have zv506 : ((-1) : Int32).toInt = (-1) := rfl
                  refine At.enter rfl ?_
                  refine r_ireti ?_
                  obtain ⟨v507, hv507⟩ : ∃ v, eA g0 233 1 = v := ⟨_, rfl⟩
                  have tv507 := congrArg Int32.toInt hv507
                  have wv507 := HI.t1 hI0
                  rw [hv507] at wv507
                  have tv507 := congrArg Int32.toInt hv507
                  have x508 := HI.eqA hI501 (p := 233) (j := 1) ((((eA_c (hF502.2.1 233 ma_X11_tell_231_233)).trans (eA_c gA_sI)).trans hv507))
                  obtain ⟨v509, hv509⟩ : ∃ v, eA g0 233 0 = v := ⟨_, rfl⟩
                  have tv509 := congrArg Int32.toInt hv509
                  have wv509 := HI.t0 hI0
                  rw [hv509] at wv509
                  have tv509 := congrArg Int32.toInt hv509
                  have x510 := HI.eqA hI501 (p := 233) (j := 0) ((((eA_c (hF502.2.1 233 ma_X11_tell_231_233)).trans (eA_c gA_sI)).trans hv509))
                  obtain ⟨v511, hv511⟩ : ∃ v, eA g0 233 4 = v := ⟨_, rfl⟩
                  have wv511 := HI.t4 hI0
                  rw [hv511] at wv511
                  have tv511 := congrArg Int32.toInt hv511
                  have x512 := HI.eqA hI501 (p := 233) (j := 4) ((((eA_c (hF502.2.1 233 ma_X11_tell_231_233)).trans (eA_c gA_sI)).trans hv511))
                  obtain ⟨v513, hv513⟩ : ∃ v, eA g0 233 5 = v := ⟨_, rfl⟩
                  have wv513 := HI.t5 hI0
                  rw [hv513] at wv513
                  have tv513 := congrArg Int32.toInt hv513
                  have x514 := HI.eqA hI501 (p := 233) (j := 5) ((((eA_c (hF502.2.1 233 ma_X11_tell_231_233)).trans (eA_c gA_sI)).trans hv513))
                  obtain ⟨v515, hv515⟩ : ∃ v, eA g0 233 6 = v := ⟨_, rfl⟩
                  have wv515 := HI.t6 hI0
                  rw [hv515] at wv515
                  have tv515 := congrArg Int32.toInt hv515
                  have x516 := HI.eqA hI501 (p := 233) (j := 6) ((((eA_c (hF502.2.1 233 ma_X11_tell_231_233)).trans (eA_c gA_sI)).trans hv515))
                  obtain ⟨v517, hv517⟩ : ∃ v, eA g0 233 2 = v := ⟨_, rfl⟩
                  have tv517 := congrArg Int32.toInt hv517
                  have wv517 := HI.t2 hI0
                  rw [hv517] at wv517
                  have tv517 := congrArg Int32.toInt hv517
                  have x518 := HI.eqA hI501 (p := 233) (j := 2) ((((eA_c (hF502.2.1 233 ma_X11_tell_231_233)).trans (eA_c gA_sI)).trans hv517))
                  obtain ⟨v519, hv519⟩ : ∃ v, eA g0 233 3 = v := ⟨_, rfl⟩
                  have wv519 := HI.t3 hI0
                  rw [hv519] at wv519
                  have tv519 := congrArg Int32.toInt hv519
                  have x520 := HI.eqA hI501 (p := 233) (j := 3) ((((eA_c (hF502.2.1 233 ma_X11_tell_231_233)).trans (eA_c gA_sI)).trans hv519))
                  have x521 := HI.eqA hI0 (p := 233) (j := 1) (hv507)
                  have x522 := HI.eqA hI0 (p := 233) (j := 0) (hv509)
                  have x523 := HI.eqA hI0 (p := 233) (j := 0) (hv509)
                  have x524 := HI.eqA hI0 (p := 233) (j := 4) (hv511)
                  have x525 := HI.eqA hI0 (p := 233) (j := 5) (hv513)
                  have x526 := HI.eqA hI0 (p := 233) (j := 6) (hv515)
                  have x527 := HI.eqA hI0 (p := 233) (j := 2) (hv517)
                  have x528 := HI.eqA hI0 (p := 233) (j := 3) (hv519)
                  exact ⟨_, rfl, hI501, hF505, _, rfl, by omega, ⟨⟨by omega, by omega, by omega, by omega, by omega, by omega, by omega, by omega, by omega, by omega⟩, (by intro i i0 i1; refine (eA_ti (((hF502.2.1 233 ma_X11_tell_231_233).trans (gA_sI)))).trans ?_; (first | with_reducible rfl | omega | exact eA_ix (by omega) | rfl)), (by intro i i0 i1; refine (eA_ti (((hF502.2.1 233 ma_X11_tell_231_233).trans (gA_sI)))).trans ?_; (first | with_reducible rfl | omega | exact eA_ix (by omega) | rfl)), (by have kn : ¬ ((1 ≤ a1.toInt ∧ a1.toInt ≤ 9 ∧ 0 ≤ a4.toInt ∧ a4.toInt ≤ 99 ∧ 0 ≤ a5.toInt ∧ a5.toInt ≤ 9 ∧ 0 ≤ a6.toInt ∧ a6.toInt ≤ 9999) ∧ (0 ≤ a2.toInt ∧ a2.toInt < (eA g0 233 0).toInt ∧ 0 ≤ a3.toInt ∧ a3.toInt < (eA g0 233 0).toInt) ∧ (eA g0 233 1).toInt < 8) := (by omega); intro i i0 i1; refine Eq.trans ?_ (if_neg (show ¬ (((1 ≤ a1.toInt ∧ a1.toInt ≤ 9 ∧ 0 ≤ a4.toInt ∧ a4.toInt ≤ 99 ∧ 0 ≤ a5.toInt ∧ a5.toInt ≤ 9 ∧ 0 ≤ a6.toInt ∧ a6.toInt ≤ 9999) ∧ (0 ≤ a2.toInt ∧ a2.toInt < (eA g0 233 0).toInt ∧ 0 ≤ a3.toInt ∧ a3.toInt < (eA g0 233 0).toInt) ∧ (eA g0 233 1).toInt < 8) ∧ i = 46 + 6 * (eA g0 233 1).toInt + 0) from fun z => kn z.1)).symm; refine Eq.trans ?_ (if_neg (show ¬ (((1 ≤ a1.toInt ∧ a1.toInt ≤ 9 ∧ 0 ≤ a4.toInt ∧ a4.toInt ≤ 99 ∧ 0 ≤ a5.toInt ∧ a5.toInt ≤ 9 ∧ 0 ≤ a6.toInt ∧ a6.toInt ≤ 9999) ∧ (0 ≤ a2.toInt ∧ a2.toInt < (eA g0 233 0).toInt ∧ 0 ≤ a3.toInt ∧ a3.toInt < (eA g0 233 0).toInt) ∧ (eA g0 233 1).toInt < 8) ∧ i = 46 + 6 * (eA g0 233 1).toInt + 1) from fun z => kn z.1)).symm; refine Eq.trans ?_ (if_neg (show ¬ (((1 ≤ a1.toInt ∧ a1.toInt ≤ 9 ∧ 0 ≤ a4.toInt ∧ a4.toInt ≤ 99 ∧ 0 ≤ a5.toInt ∧ a5.toInt ≤ 9 ∧ 0 ≤ a6.toInt ∧ a6.toInt ≤ 9999) ∧ (0 ≤ a2.toInt ∧ a2.toInt < (eA g0 233 0).toInt ∧ 0 ≤ a3.toInt ∧ a3.toInt < (eA g0 233 0).toInt) ∧ (eA g0 233 1).toInt < 8) ∧ i = 46 + 6 * (eA g0 233 1).toInt + 2) from fun z => kn z.1)).symm; refine Eq.trans ?_ (if_neg (show ¬ (((1 ≤ a1.toInt ∧ a1.toInt ≤ 9 ∧ 0 ≤ a4.toInt ∧ a4.toInt ≤ 99 ∧ 0 ≤ a5.toInt ∧ a5.toInt ≤ 9 ∧ 0 ≤ a6.toInt ∧ a6.toInt ≤ 9999) ∧ (0 ≤ a2.toInt ∧ a2.toInt < (eA g0 233 0).toInt ∧ 0 ≤ a3.toInt ∧ a3.toInt < (eA g0 233 0).toInt) ∧ (eA g0 233 1).toInt < 8) ∧ i = 46 + 6 * (eA g0 233 1).toInt + 3) from fun z => kn z.1)).symm; refine Eq.trans ?_ (if_neg (show ¬ (((1 ≤ a1.toInt ∧ a1.toInt ≤ 9 ∧ 0 ≤ a4.toInt ∧ a4.toInt ≤ 99 ∧ 0 ≤ a5.toInt ∧ a5.toInt ≤ 9 ∧ 0 ≤ a6.toInt ∧ a6.toInt ≤ 9999) ∧ (0 ≤ a2.toInt ∧ a2.toInt < (eA g0 233 0).toInt ∧ 0 ≤ a3.toInt ∧ a3.toInt < (eA g0 233 0).toInt) ∧ (eA g0 233 1).toInt < 8) ∧ i = 46 + 6 * (eA g0 233 1).toInt + 4) from fun z => kn z.1)).symm; refine Eq.trans ?_ (if_neg (show ¬ (((1 ≤ a1.toInt ∧ a1.toInt ≤ 9 ∧ 0 ≤ a4.toInt ∧ a4.toInt ≤ 99 ∧ 0 ≤ a5.toInt ∧ a5.toInt ≤ 9 ∧ 0 ≤ a6.toInt ∧ a6.toInt ≤ 9999) ∧ (0 ≤ a2.toInt ∧ a2.toInt < (eA g0 233 0).toInt ∧ 0 ≤ a3.toInt ∧ a3.toInt < (eA g0 233 0).toInt) ∧ (eA g0 233 1).toInt < 8) ∧ i = 46 + 6 * (eA g0 233 1).toInt + 5) from fun z => kn z.1)).symm; refine (eA_ti (((hF502.2.1 233 ma_X11_tell_231_233).trans (gA_sI)))).trans ?_; (first | with_reducible rfl | omega | exact eA_ix (by omega) | rfl))⟩⟩
                · have c499_ : v468.toInt ≤ 9999 := en_j_gt_f c499
                  refine At.enter rfl ?_
                  refine r_iconst 1 rfl ?_
                  refine r_goto ?_
                  refine At.enter rfl ?_
                  refine q_iretz (by decide) ?_
                  refine At.enter rfl ?_
                  refine r_iff 48 rfl (by decide) ?_
                  refine At.enter rfl ?_
                  refine r_iconst 1 rfl ?_
                  refine r_goto ?_
                  refine At.enter rfl ?_
                  refine q_iretz (by decide) ?_
                  refine At.enter rfl ?_
                  refine r_ift (by decide) ?_
                  refine At.enter rfl ?_
                  refine r_aload_n rfl ?_
                  refine r_iload_n rfl ?_
                  refine q_inlV 29 rfl [.ref 231, .int a2] [] (Nat.le_of_ble_eq_true rfl) rfl ?_
                  refine Ev.mk rfl rfl ⟨Nat.le_of_ble_eq_true rfl, Or.inr (q_rc hI283.1 kx_231 rfl)⟩ ?_
                  show At _ none _ _ (0, [(0, .ref 231), (1, .int a2)], [], (_, _)) _
                  refine At.enter rfl ?_
                  refine r_iload_n rfl ?_
                  refine q_i2l (fun v529 hv529 => ?_)
                  refine r_lconst 0 rfl ?_
                  refine r_aload_n rfl ?_
                  refine q_getR (Sh.ref hI283.1 kx_231 rfl) ?_
                  refine r_iconst 0 rfl ?_
                  obtain ⟨v530, hv530⟩ : ∃ v, eA g0 233 0 = v := ⟨_, rfl⟩
                  have tv530 := congrArg Int32.toInt hv530
                  have wv530 := HI.t0 hI0
                  rw [hv530] at wv530
                  refine q_iald (Sh.arr hI283.1 ka_233) 0 rfl (by decide) v530 ((eA_c (gA_sI)).trans hv530) ?_
                  refine q_i2l (fun v531 hv531 => ?_)
                  refine r_lconst 1 rfl ?_
                  refine q_lsub (v531.toInt - 1) rfl (by omega) (fun v532 hv532 => ?_)
                  refine q_inlS 15 rfl [.long v529, .long 0, .long v532] [] (Nat.le_of_ble_eq_true rfl) rfl ?_
                  refine Ev.mk rfl rfl ⟨Nat.le_of_ble_eq_true rfl, Or.inl rfl⟩ ?_
                  show At _ none _ _ (0, [(0, .long v529), (2, .long 0), (4, .long v532)], [], (_, _)) _
                  refine At.enter rfl ?_
                  refine r_lload_n rfl ?_
                  refine r_lload_n rfl ?_
                  refine r_lcmp _ rfl ?_
                  refine r_ifs 6 rfl (fun c533 => ?_) (fun c533 => ?_)
                  · have c533_ : v529.toInt < 0 := en_j_lt_t c533
                    refine At.enter rfl ?_
                    refine r_iconst 0 rfl ?_
                    refine Ar.fall 18 rfl ?_
                    refine At.enter rfl ?_
                    refine q_iretz (by decide) ?_
                    refine At.enter rfl ?_
                    refine q_iretz (by decide) ?_
                    refine At.enter rfl ?_
                    refine r_ift (by decide) ?_
                    refine At.enter rfl ?_
                    refine r_aload_n rfl ?_
                    refine r_bipush (-2) rfl ?_
                    refine r_callV 46 rfl [.ref 231, .int (-2)] [] (Nat.le_of_ble_eq_true rfl) rfl (T_X11_tell_231 _ hI283 (-2) (by decide)) ?_
                    rintro _ _ ⟨g534, rfl, hI535, hF536, v537, rfl, hr538⟩
                    refine At.sti ?_
                    have hF539 := Fr.tr hF284 hF536 rfl rfl
                    have zv540 : ((-2) : Int32).toInt = (-2) := rfl
                    refine At.enter rfl ?_
                    refine r_ireti ?_
                    obtain ⟨v541, hv541⟩ : ∃ v, eA g0 233 1 = v := ⟨_, rfl⟩
                    have tv541 := congrArg Int32.toInt hv541
                    have wv541 := HI.t1 hI0
                    rw [hv541] at wv541
                    have tv541 := congrArg Int32.toInt hv541
                    have x542 := HI.eqA hI535 (p := 233) (j := 1) ((((eA_c (hF536.2.1 233 ma_X11_tell_231_233)).trans (eA_c gA_sI)).trans hv541))
                    have x543 := HI.eqA hI535 (p := 233) (j := 0) ((((eA_c (hF536.2.1 233 ma_X11_tell_231_233)).trans (eA_c gA_sI)).trans hv530))
                    obtain ⟨v544, hv544⟩ : ∃ v, eA g0 233 4 = v := ⟨_, rfl⟩
                    have wv544 := HI.t4 hI0
                    rw [hv544] at wv544
                    have tv544 := congrArg Int32.toInt hv544
                    have x545 := HI.eqA hI535 (p := 233) (j := 4) ((((eA_c (hF536.2.1 233 ma_X11_tell_231_233)).trans (eA_c gA_sI)).trans hv544))
                    obtain ⟨v546, hv546⟩ : ∃ v, eA g0 233 5 = v := ⟨_, rfl⟩
                    have wv546 := HI.t5 hI0
                    rw [hv546] at wv546
                    have tv546 := congrArg Int32.toInt hv546
                    have x547 := HI.eqA hI535 (p := 233) (j := 5) ((((eA_c (hF536.2.1 233 ma_X11_tell_231_233)).trans (eA_c gA_sI)).trans hv546))
                    obtain ⟨v548, hv548⟩ : ∃ v, eA g0 233 6 = v := ⟨_, rfl⟩
                    have wv548 := HI.t6 hI0
                    rw [hv548] at wv548
                    have tv548 := congrArg Int32.toInt hv548
                    have x549 := HI.eqA hI535 (p := 233) (j := 6) ((((eA_c (hF536.2.1 233 ma_X11_tell_231_233)).trans (eA_c gA_sI)).trans hv548))
                    obtain ⟨v550, hv550⟩ : ∃ v, eA g0 233 2 = v := ⟨_, rfl⟩
                    have tv550 := congrArg Int32.toInt hv550
                    have wv550 := HI.t2 hI0
                    rw [hv550] at wv550
                    have tv550 := congrArg Int32.toInt hv550
                    have x551 := HI.eqA hI535 (p := 233) (j := 2) ((((eA_c (hF536.2.1 233 ma_X11_tell_231_233)).trans (eA_c gA_sI)).trans hv550))
                    obtain ⟨v552, hv552⟩ : ∃ v, eA g0 233 3 = v := ⟨_, rfl⟩
                    have wv552 := HI.t3 hI0
                    rw [hv552] at wv552
                    have tv552 := congrArg Int32.toInt hv552
                    have x553 := HI.eqA hI535 (p := 233) (j := 3) ((((eA_c (hF536.2.1 233 ma_X11_tell_231_233)).trans (eA_c gA_sI)).trans hv552))
                    have x554 := HI.eqA hI0 (p := 233) (j := 1) (hv541)
                    have x555 := HI.eqA hI0 (p := 233) (j := 0) (hv530)
                    have x556 := HI.eqA hI0 (p := 233) (j := 0) (hv530)
                    have x557 := HI.eqA hI0 (p := 233) (j := 4) (hv544)
                    have x558 := HI.eqA hI0 (p := 233) (j := 5) (hv546)
                    have x559 := HI.eqA hI0 (p := 233) (j := 6) (hv548)
                    have x560 := HI.eqA hI0 (p := 233) (j := 2) (hv550)
                    have x561 := HI.eqA hI0 (p := 233) (j := 3) (hv552)
                    exact ⟨_, rfl, hI535, hF539, _, rfl, by omega, ⟨⟨by omega, by omega, by omega, by omega, by omega, by omega, by omega, by omega, by omega, by omega⟩, (by intro i i0 i1; refine (eA_ti (((hF536.2.1 233 ma_X11_tell_231_233).trans (gA_sI)))).trans ?_; (first | with_reducible rfl | omega | exact eA_ix (by omega) | rfl)), (by intro i i0 i1; refine (eA_ti (((hF536.2.1 233 ma_X11_tell_231_233).trans (gA_sI)))).trans ?_; (first | with_reducible rfl | omega | exact eA_ix (by omega) | rfl)), (by have kn : ¬ ((1 ≤ a1.toInt ∧ a1.toInt ≤ 9 ∧ 0 ≤ a4.toInt ∧ a4.toInt ≤ 99 ∧ 0 ≤ a5.toInt ∧ a5.toInt ≤ 9 ∧ 0 ≤ a6.toInt ∧ a6.toInt ≤ 9999) ∧ (0 ≤ a2.toInt ∧ a2.toInt < (eA g0 233 0).toInt ∧ 0 ≤ a3.toInt ∧ a3.toInt < (eA g0 233 0).toInt) ∧ (eA g0 233 1).toInt < 8) := (by omega); intro i i0 i1; refine Eq.trans ?_ (if_neg (show ¬ (((1 ≤ a1.toInt ∧ a1.toInt ≤ 9 ∧ 0 ≤ a4.toInt ∧ a4.toInt ≤ 99 ∧ 0 ≤ a5.toInt ∧ a5.toInt ≤ 9 ∧ 0 ≤ a6.toInt ∧ a6.toInt ≤ 9999) ∧ (0 ≤ a2.toInt ∧ a2.toInt < (eA g0 233 0).toInt ∧ 0 ≤ a3.toInt ∧ a3.toInt < (eA g0 233 0).toInt) ∧ (eA g0 233 1).toInt < 8) ∧ i = 46 + 6 * (eA g0 233 1).toInt + 0) from fun z => kn z.1)).symm; refine Eq.trans ?_ (if_neg (show ¬ (((1 ≤ a1.toInt ∧ a1.toInt ≤ 9 ∧ 0 ≤ a4.toInt ∧ a4.toInt ≤ 99 ∧ 0 ≤ a5.toInt ∧ a5.toInt ≤ 9 ∧ 0 ≤ a6.toInt ∧ a6.toInt ≤ 9999) ∧ (0 ≤ a2.toInt ∧ a2.toInt < (eA g0 233 0).toInt ∧ 0 ≤ a3.toInt ∧ a3.toInt < (eA g0 233 0).toInt) ∧ (eA g0 233 1).toInt < 8) ∧ i = 46 + 6 * (eA g0 233 1).toInt + 1) from fun z => kn z.1)).symm; refine Eq.trans ?_ (if_neg (show ¬ (((1 ≤ a1.toInt ∧ a1.toInt ≤ 9 ∧ 0 ≤ a4.toInt ∧ a4.toInt ≤ 99 ∧ 0 ≤ a5.toInt ∧ a5.toInt ≤ 9 ∧ 0 ≤ a6.toInt ∧ a6.toInt ≤ 9999) ∧ (0 ≤ a2.toInt ∧ a2.toInt < (eA g0 233 0).toInt ∧ 0 ≤ a3.toInt ∧ a3.toInt < (eA g0 233 0).toInt) ∧ (eA g0 233 1).toInt < 8) ∧ i = 46 + 6 * (eA g0 233 1).toInt + 2) from fun z => kn z.1)).symm; refine Eq.trans ?_ (if_neg (show ¬ (((1 ≤ a1.toInt ∧ a1.toInt ≤ 9 ∧ 0 ≤ a4.toInt ∧ a4.toInt ≤ 99 ∧ 0 ≤ a5.toInt ∧ a5.toInt ≤ 9 ∧ 0 ≤ a6.toInt ∧ a6.toInt ≤ 9999) ∧ (0 ≤ a2.toInt ∧ a2.toInt < (eA g0 233 0).toInt ∧ 0 ≤ a3.toInt ∧ a3.toInt < (eA g0 233 0).toInt) ∧ (eA g0 233 1).toInt < 8) ∧ i = 46 + 6 * (eA g0 233 1).toInt + 3) from fun z => kn z.1)).symm; refine Eq.trans ?_ (if_neg (show ¬ (((1 ≤ a1.toInt ∧ a1.toInt ≤ 9 ∧ 0 ≤ a4.toInt ∧ a4.toInt ≤ 99 ∧ 0 ≤ a5.toInt ∧ a5.toInt ≤ 9 ∧ 0 ≤ a6.toInt ∧ a6.toInt ≤ 9999) ∧ (0 ≤ a2.toInt ∧ a2.toInt < (eA g0 233 0).toInt ∧ 0 ≤ a3.toInt ∧ a3.toInt < (eA g0 233 0).toInt) ∧ (eA g0 233 1).toInt < 8) ∧ i = 46 + 6 * (eA g0 233 1).toInt + 4) from fun z => kn z.1)).symm; refine Eq.trans ?_ (if_neg (show ¬ (((1 ≤ a1.toInt ∧ a1.toInt ≤ 9 ∧ 0 ≤ a4.toInt ∧ a4.toInt ≤ 99 ∧ 0 ≤ a5.toInt ∧ a5.toInt ≤ 9 ∧ 0 ≤ a6.toInt ∧ a6.toInt ≤ 9999) ∧ (0 ≤ a2.toInt ∧ a2.toInt < (eA g0 233 0).toInt ∧ 0 ≤ a3.toInt ∧ a3.toInt < (eA g0 233 0).toInt) ∧ (eA g0 233 1).toInt < 8) ∧ i = 46 + 6 * (eA g0 233 1).toInt + 5) from fun z => kn z.1)).symm; refine (eA_ti (((hF536.2.1 233 ma_X11_tell_231_233).trans (gA_sI)))).trans ?_; (first | with_reducible rfl | omega | exact eA_ix (by omega) | rfl))⟩⟩
                  · have c533_ : v529.toInt ≥ 0 := en_j_lt_f c533
                    refine At.enter rfl ?_
                    refine r_lload_n rfl ?_
                    refine r_lload rfl ?_
                    refine r_lcmp _ rfl ?_
                    refine r_ifs 13 rfl (fun c562 => ?_) (fun c562 => ?_)
                    · have c562_ : v529.toInt > v532.toInt := en_j_gt_t c562
                      refine At.enter rfl ?_
                      refine r_iconst 0 rfl ?_
                      refine Ar.fall 18 rfl ?_
                      refine At.enter rfl ?_
                      refine q_iretz (by decide) ?_
                      refine At.enter rfl ?_
                      refine q_iretz (by decide) ?_
                      refine At.enter rfl ?_
                      refine r_ift (by decide) ?_
                      refine At.enter rfl ?_
                      refine r_aload_n rfl ?_
                      refine r_bipush (-2) rfl ?_
                      refine r_callV 46 rfl [.ref 231, .int (-2)] [] (Nat.le_of_ble_eq_true rfl) rfl (T_X11_tell_231 _ hI283 (-2) (by decide)) ?_
                      rintro _ _ ⟨g563, rfl, hI564, hF565, v566, rfl, hr567⟩
                      refine At.sti ?_
                      have hF568 := Fr.tr hF284 hF565 rfl rfl
                      have zv569 : ((-2) : Int32).toInt = (-2) := rfl
                      refine At.enter rfl ?_
                      refine r_ireti ?_
                      obtain ⟨v570, hv570⟩ : ∃ v, eA g0 233 1 = v := ⟨_, rfl⟩
                      have tv570 := congrArg Int32.toInt hv570
                      have wv570 := HI.t1 hI0
                      rw [hv570] at wv570
                      have tv570 := congrArg Int32.toInt hv570
                      have x571 := HI.eqA hI564 (p := 233) (j := 1) ((((eA_c (hF565.2.1 233 ma_X11_tell_231_233)).trans (eA_c gA_sI)).trans hv570))
                      have x572 := HI.eqA hI564 (p := 233) (j := 0) ((((eA_c (hF565.2.1 233 ma_X11_tell_231_233)).trans (eA_c gA_sI)).trans hv530))
                      obtain ⟨v573, hv573⟩ : ∃ v, eA g0 233 4 = v := ⟨_, rfl⟩
                      have wv573 := HI.t4 hI0
                      rw [hv573] at wv573
                      have tv573 := congrArg Int32.toInt hv573
                      have x574 := HI.eqA hI564 (p := 233) (j := 4) ((((eA_c (hF565.2.1 233 ma_X11_tell_231_233)).trans (eA_c gA_sI)).trans hv573))
                      obtain ⟨v575, hv575⟩ : ∃ v, eA g0 233 5 = v := ⟨_, rfl⟩
                      have wv575 := HI.t5 hI0
                      rw [hv575] at wv575
                      have tv575 := congrArg Int32.toInt hv575
                      have x576 := HI.eqA hI564 (p := 233) (j := 5) ((((eA_c (hF565.2.1 233 ma_X11_tell_231_233)).trans (eA_c gA_sI)).trans hv575))
                      obtain ⟨v577, hv577⟩ : ∃ v, eA g0 233 6 = v := ⟨_, rfl⟩
                      have wv577 := HI.t6 hI0
                      rw [hv577] at wv577
                      have tv577 := congrArg Int32.toInt hv577
                      have x578 := HI.eqA hI564 (p := 233) (j := 6) ((((eA_c (hF565.2.1 233 ma_X11_tell_231_233)).trans (eA_c gA_sI)).trans hv577))
                      obtain ⟨v579, hv579⟩ : ∃ v, eA g0 233 2 = v := ⟨_, rfl⟩
                      have tv579 := congrArg Int32.toInt hv579
                      have wv579 := HI.t2 hI0
                      rw [hv579] at wv579
                      have tv579 := congrArg Int32.toInt hv579
                      have x580 := HI.eqA hI564 (p := 233) (j := 2) ((((eA_c (hF565.2.1 233 ma_X11_tell_231_233)).trans (eA_c gA_sI)).trans hv579))
                      obtain ⟨v581, hv581⟩ : ∃ v, eA g0 233 3 = v := ⟨_, rfl⟩
                      have wv581 := HI.t3 hI0
                      rw [hv581] at wv581
                      have tv581 := congrArg Int32.toInt hv581
                      have x582 := HI.eqA hI564 (p := 233) (j := 3) ((((eA_c (hF565.2.1 233 ma_X11_tell_231_233)).trans (eA_c gA_sI)).trans hv581))
                      have x583 := HI.eqA hI0 (p := 233) (j := 1) (hv570)
                      have x584 := HI.eqA hI0 (p := 233) (j := 0) (hv530)
                      have x585 := HI.eqA hI0 (p := 233) (j := 0) (hv530)
                      have x586 := HI.eqA hI0 (p := 233) (j := 4) (hv573)
                      have x587 := HI.eqA hI0 (p := 233) (j := 5) (hv575)
                      have x588 := HI.eqA hI0 (p := 233) (j := 6) (hv577)
                      have x589 := HI.eqA hI0 (p := 233) (j := 2) (hv579)
                      have x590 := HI.eqA hI0 (p := 233) (j := 3) (hv581)
                      exact ⟨_, rfl, hI564, hF568, _, rfl, by omega, ⟨⟨by omega, by omega, by omega, by omega, by omega, by omega, by omega, by omega, by omega, by omega⟩, (by intro i i0 i1; refine (eA_ti (((hF565.2.1 233 ma_X11_tell_231_233).trans (gA_sI)))).trans ?_; (first | with_reducible rfl | omega | exact eA_ix (by omega) | rfl)), (by intro i i0 i1; refine (eA_ti (((hF565.2.1 233 ma_X11_tell_231_233).trans (gA_sI)))).trans ?_; (first | with_reducible rfl | omega | exact eA_ix (by omega) | rfl)), (by have kn : ¬ ((1 ≤ a1.toInt ∧ a1.toInt ≤ 9 ∧ 0 ≤ a4.toInt ∧ a4.toInt ≤ 99 ∧ 0 ≤ a5.toInt ∧ a5.toInt ≤ 9 ∧ 0 ≤ a6.toInt ∧ a6.toInt ≤ 9999) ∧ (0 ≤ a2.toInt ∧ a2.toInt < (eA g0 233 0).toInt ∧ 0 ≤ a3.toInt ∧ a3.toInt < (eA g0 233 0).toInt) ∧ (eA g0 233 1).toInt < 8) := (by omega); intro i i0 i1; refine Eq.trans ?_ (if_neg (show ¬ (((1 ≤ a1.toInt ∧ a1.toInt ≤ 9 ∧ 0 ≤ a4.toInt ∧ a4.toInt ≤ 99 ∧ 0 ≤ a5.toInt ∧ a5.toInt ≤ 9 ∧ 0 ≤ a6.toInt ∧ a6.toInt ≤ 9999) ∧ (0 ≤ a2.toInt ∧ a2.toInt < (eA g0 233 0).toInt ∧ 0 ≤ a3.toInt ∧ a3.toInt < (eA g0 233 0).toInt) ∧ (eA g0 233 1).toInt < 8) ∧ i = 46 + 6 * (eA g0 233 1).toInt + 0) from fun z => kn z.1)).symm; refine Eq.trans ?_ (if_neg (show ¬ (((1 ≤ a1.toInt ∧ a1.toInt ≤ 9 ∧ 0 ≤ a4.toInt ∧ a4.toInt ≤ 99 ∧ 0 ≤ a5.toInt ∧ a5.toInt ≤ 9 ∧ 0 ≤ a6.toInt ∧ a6.toInt ≤ 9999) ∧ (0 ≤ a2.toInt ∧ a2.toInt < (eA g0 233 0).toInt ∧ 0 ≤ a3.toInt ∧ a3.toInt < (eA g0 233 0).toInt) ∧ (eA g0 233 1).toInt < 8) ∧ i = 46 + 6 * (eA g0 233 1).toInt + 1) from fun z => kn z.1)).symm; refine Eq.trans ?_ (if_neg (show ¬ (((1 ≤ a1.toInt ∧ a1.toInt ≤ 9 ∧ 0 ≤ a4.toInt ∧ a4.toInt ≤ 99 ∧ 0 ≤ a5.toInt ∧ a5.toInt ≤ 9 ∧ 0 ≤ a6.toInt ∧ a6.toInt ≤ 9999) ∧ (0 ≤ a2.toInt ∧ a2.toInt < (eA g0 233 0).toInt ∧ 0 ≤ a3.toInt ∧ a3.toInt < (eA g0 233 0).toInt) ∧ (eA g0 233 1).toInt < 8) ∧ i = 46 + 6 * (eA g0 233 1).toInt + 2) from fun z => kn z.1)).symm; refine Eq.trans ?_ (if_neg (show ¬ (((1 ≤ a1.toInt ∧ a1.toInt ≤ 9 ∧ 0 ≤ a4.toInt ∧ a4.toInt ≤ 99 ∧ 0 ≤ a5.toInt ∧ a5.toInt ≤ 9 ∧ 0 ≤ a6.toInt ∧ a6.toInt ≤ 9999) ∧ (0 ≤ a2.toInt ∧ a2.toInt < (eA g0 233 0).toInt ∧ 0 ≤ a3.toInt ∧ a3.toInt < (eA g0 233 0).toInt) ∧ (eA g0 233 1).toInt < 8) ∧ i = 46 + 6 * (eA g0 233 1).toInt + 3) from fun z => kn z.1)).symm; refine Eq.trans ?_ (if_neg (show ¬ (((1 ≤ a1.toInt ∧ a1.toInt ≤ 9 ∧ 0 ≤ a4.toInt ∧ a4.toInt ≤ 99 ∧ 0 ≤ a5.toInt ∧ a5.toInt ≤ 9 ∧ 0 ≤ a6.toInt ∧ a6.toInt ≤ 9999) ∧ (0 ≤ a2.toInt ∧ a2.toInt < (eA g0 233 0).toInt ∧ 0 ≤ a3.toInt ∧ a3.toInt < (eA g0 233 0).toInt) ∧ (eA g0 233 1).toInt < 8) ∧ i = 46 + 6 * (eA g0 233 1).toInt + 4) from fun z => kn z.1)).symm; refine Eq.trans ?_ (if_neg (show ¬ (((1 ≤ a1.toInt ∧ a1.toInt ≤ 9 ∧ 0 ≤ a4.toInt ∧ a4.toInt ≤ 99 ∧ 0 ≤ a5.toInt ∧ a5.toInt ≤ 9 ∧ 0 ≤ a6.toInt ∧ a6.toInt ≤ 9999) ∧ (0 ≤ a2.toInt ∧ a2.toInt < (eA g0 233 0).toInt ∧ 0 ≤ a3.toInt ∧ a3.toInt < (eA g0 233 0).toInt) ∧ (eA g0 233 1).toInt < 8) ∧ i = 46 + 6 * (eA g0 233 1).toInt + 5) from fun z => kn z.1)).symm; refine (eA_ti (((hF565.2.1 233 ma_X11_tell_231_233).trans (gA_sI)))).trans ?_; (first | with_reducible rfl | omega | exact eA_ix (by omega) | rfl))⟩⟩
                    · have c562_ : v529.toInt ≤ v532.toInt := en_j_gt_f c562
                      refine At.enter rfl ?_
                      refine r_iconst 1 rfl ?_
                      refine r_goto ?_
                      refine At.enter rfl ?_
                      refine q_iretz (by decide) ?_
                      refine At.enter rfl ?_
                      refine q_iretz (by decide) ?_
                      refine At.enter rfl ?_
                      refine r_iff 32 rfl (by decide) ?_
                      refine At.enter rfl ?_
                      refine r_aload_n rfl ?_
                      refine r_iload_n rfl ?_
                      refine q_inlV 37 rfl [.ref 231, .int a3] [] (Nat.le_of_ble_eq_true rfl) rfl ?_
                      refine Ev.mk rfl rfl ⟨Nat.le_of_ble_eq_true rfl, Or.inr (q_rc hI283.1 kx_231 rfl)⟩ ?_
                      show At _ none _ _ (0, [(0, .ref 231), (1, .int a3)], [], (_, _)) _
                      refine At.enter rfl ?_
                      refine r_iload_n rfl ?_
                      refine q_i2l (fun v591 hv591 => ?_)
                      refine r_lconst 0 rfl ?_
                      refine r_aload_n rfl ?_
                      refine q_getR (Sh.ref hI283.1 kx_231 rfl) ?_
                      refine r_iconst 0 rfl ?_
                      refine q_iald (Sh.arr hI283.1 ka_233) 0 rfl (by decide) v530 ((eA_c (gA_sI)).trans hv530) ?_
                      refine q_i2l (fun v592 hv592 => ?_)
                      refine r_lconst 1 rfl ?_
                      refine q_lsub (v592.toInt - 1) rfl (by omega) (fun v593 hv593 => ?_)
                      refine q_inlS 15 rfl [.long v591, .long 0, .long v593] [] (Nat.le_of_ble_eq_true rfl) rfl ?_
                      refine Ev.mk rfl rfl ⟨Nat.le_of_ble_eq_true rfl, Or.inl rfl⟩ ?_
                      show At _ none _ _ (0, [(0, .long v591), (2, .long 0), (4, .long v593)], [], (_, _)) _
                      refine At.enter rfl ?_
                      refine r_lload_n rfl ?_
                      refine r_lload_n rfl ?_
                      refine r_lcmp _ rfl ?_
                      refine r_ifs 6 rfl (fun c594 => ?_) (fun c594 => ?_)
                      · have c594_ : v591.toInt < 0 := en_j_lt_t c594
                        refine At.enter rfl ?_
                        refine r_iconst 0 rfl ?_
                        refine Ar.fall 18 rfl ?_
                        refine At.enter rfl ?_
                        refine q_iretz (by decide) ?_
                        refine At.enter rfl ?_
                        refine q_iretz (by decide) ?_
                        refine At.enter rfl ?_
                        refine r_iff 40 rfl (by decide) ?_
                        refine At.enter rfl ?_
                        refine r_aload_n rfl ?_
                        refine r_bipush (-2) rfl ?_
                        refine r_callV 46 rfl [.ref 231, .int (-2)] [] (Nat.le_of_ble_eq_true rfl) rfl (T_X11_tell_231 _ hI283 (-2) (by decide)) ?_
                        rintro _ _ ⟨g595, rfl, hI596, hF597, v598, rfl, hr599⟩
                        refine At.sti ?_
                        have hF600 := Fr.tr hF284 hF597 rfl rfl
                        have zv601 : ((-2) : Int32).toInt = (-2) := rfl
                        refine At.enter rfl ?_
                        refine r_ireti ?_
                        obtain ⟨v602, hv602⟩ : ∃ v, eA g0 233 1 = v := ⟨_, rfl⟩
                        have tv602 := congrArg Int32.toInt hv602
                        have wv602 := HI.t1 hI0
                        rw [hv602] at wv602
                        have tv602 := congrArg Int32.toInt hv602
                        have x603 := HI.eqA hI596 (p := 233) (j := 1) ((((eA_c (hF597.2.1 233 ma_X11_tell_231_233)).trans (eA_c gA_sI)).trans hv602))
                        have x604 := HI.eqA hI596 (p := 233) (j := 0) ((((eA_c (hF597.2.1 233 ma_X11_tell_231_233)).trans (eA_c gA_sI)).trans hv530))
                        obtain ⟨v605, hv605⟩ : ∃ v, eA g0 233 4 = v := ⟨_, rfl⟩
                        have wv605 := HI.t4 hI0
                        rw [hv605] at wv605
                        have tv605 := congrArg Int32.toInt hv605
                        have x606 := HI.eqA hI596 (p := 233) (j := 4) ((((eA_c (hF597.2.1 233 ma_X11_tell_231_233)).trans (eA_c gA_sI)).trans hv605))
                        obtain ⟨v607, hv607⟩ : ∃ v, eA g0 233 5 = v := ⟨_, rfl⟩
                        have wv607 := HI.t5 hI0
                        rw [hv607] at wv607
                        have tv607 := congrArg Int32.toInt hv607
                        have x608 := HI.eqA hI596 (p := 233) (j := 5) ((((eA_c (hF597.2.1 233 ma_X11_tell_231_233)).trans (eA_c gA_sI)).trans hv607))
                        obtain ⟨v609, hv609⟩ : ∃ v, eA g0 233 6 = v := ⟨_, rfl⟩
                        have wv609 := HI.t6 hI0
                        rw [hv609] at wv609
                        have tv609 := congrArg Int32.toInt hv609
                        have x610 := HI.eqA hI596 (p := 233) (j := 6) ((((eA_c (hF597.2.1 233 ma_X11_tell_231_233)).trans (eA_c gA_sI)).trans hv609))
                        obtain ⟨v611, hv611⟩ : ∃ v, eA g0 233 2 = v := ⟨_, rfl⟩
                        have tv611 := congrArg Int32.toInt hv611
                        have wv611 := HI.t2 hI0
                        rw [hv611] at wv611
                        have tv611 := congrArg Int32.toInt hv611
                        have x612 := HI.eqA hI596 (p := 233) (j := 2) ((((eA_c (hF597.2.1 233 ma_X11_tell_231_233)).trans (eA_c gA_sI)).trans hv611))
                        obtain ⟨v613, hv613⟩ : ∃ v, eA g0 233 3 = v := ⟨_, rfl⟩
                        have wv613 := HI.t3 hI0
                        rw [hv613] at wv613
                        have tv613 := congrArg Int32.toInt hv613
                        have x614 := HI.eqA hI596 (p := 233) (j := 3) ((((eA_c (hF597.2.1 233 ma_X11_tell_231_233)).trans (eA_c gA_sI)).trans hv613))
                        have x615 := HI.eqA hI0 (p := 233) (j := 1) (hv602)
                        have x616 := HI.eqA hI0 (p := 233) (j := 0) (hv530)
                        have x617 := HI.eqA hI0 (p := 233) (j := 0) (hv530)
                        have x618 := HI.eqA hI0 (p := 233) (j := 4) (hv605)
                        have x619 := HI.eqA hI0 (p := 233) (j := 5) (hv607)
                        have x620 := HI.eqA hI0 (p := 233) (j := 6) (hv609)
                        have x621 := HI.eqA hI0 (p := 233) (j := 2) (hv611)
                        have x622 := HI.eqA hI0 (p := 233) (j := 3) (hv613)
                        exact ⟨_, rfl, hI596, hF600, _, rfl, by omega, ⟨⟨by omega, by omega, by omega, by omega, by omega, by omega, by omega, by omega, by omega, by omega⟩, (by intro i i0 i1; refine (eA_ti (((hF597.2.1 233 ma_X11_tell_231_233).trans (gA_sI)))).trans ?_; (first | with_reducible rfl | omega | exact eA_ix (by omega) | rfl)), (by intro i i0 i1; refine (eA_ti (((hF597.2.1 233 ma_X11_tell_231_233).trans (gA_sI)))).trans ?_; (first | with_reducible rfl | omega | exact eA_ix (by omega) | rfl)), (by have kn : ¬ ((1 ≤ a1.toInt ∧ a1.toInt ≤ 9 ∧ 0 ≤ a4.toInt ∧ a4.toInt ≤ 99 ∧ 0 ≤ a5.toInt ∧ a5.toInt ≤ 9 ∧ 0 ≤ a6.toInt ∧ a6.toInt ≤ 9999) ∧ (0 ≤ a2.toInt ∧ a2.toInt < (eA g0 233 0).toInt ∧ 0 ≤ a3.toInt ∧ a3.toInt < (eA g0 233 0).toInt) ∧ (eA g0 233 1).toInt < 8) := (by omega); intro i i0 i1; refine Eq.trans ?_ (if_neg (show ¬ (((1 ≤ a1.toInt ∧ a1.toInt ≤ 9 ∧ 0 ≤ a4.toInt ∧ a4.toInt ≤ 99 ∧ 0 ≤ a5.toInt ∧ a5.toInt ≤ 9 ∧ 0 ≤ a6.toInt ∧ a6.toInt ≤ 9999) ∧ (0 ≤ a2.toInt ∧ a2.toInt < (eA g0 233 0).toInt ∧ 0 ≤ a3.toInt ∧ a3.toInt < (eA g0 233 0).toInt) ∧ (eA g0 233 1).toInt < 8) ∧ i = 46 + 6 * (eA g0 233 1).toInt + 0) from fun z => kn z.1)).symm; refine Eq.trans ?_ (if_neg (show ¬ (((1 ≤ a1.toInt ∧ a1.toInt ≤ 9 ∧ 0 ≤ a4.toInt ∧ a4.toInt ≤ 99 ∧ 0 ≤ a5.toInt ∧ a5.toInt ≤ 9 ∧ 0 ≤ a6.toInt ∧ a6.toInt ≤ 9999) ∧ (0 ≤ a2.toInt ∧ a2.toInt < (eA g0 233 0).toInt ∧ 0 ≤ a3.toInt ∧ a3.toInt < (eA g0 233 0).toInt) ∧ (eA g0 233 1).toInt < 8) ∧ i = 46 + 6 * (eA g0 233 1).toInt + 1) from fun z => kn z.1)).symm; refine Eq.trans ?_ (if_neg (show ¬ (((1 ≤ a1.toInt ∧ a1.toInt ≤ 9 ∧ 0 ≤ a4.toInt ∧ a4.toInt ≤ 99 ∧ 0 ≤ a5.toInt ∧ a5.toInt ≤ 9 ∧ 0 ≤ a6.toInt ∧ a6.toInt ≤ 9999) ∧ (0 ≤ a2.toInt ∧ a2.toInt < (eA g0 233 0).toInt ∧ 0 ≤ a3.toInt ∧ a3.toInt < (eA g0 233 0).toInt) ∧ (eA g0 233 1).toInt < 8) ∧ i = 46 + 6 * (eA g0 233 1).toInt + 2) from fun z => kn z.1)).symm; refine Eq.trans ?_ (if_neg (show ¬ (((1 ≤ a1.toInt ∧ a1.toInt ≤ 9 ∧ 0 ≤ a4.toInt ∧ a4.toInt ≤ 99 ∧ 0 ≤ a5.toInt ∧ a5.toInt ≤ 9 ∧ 0 ≤ a6.toInt ∧ a6.toInt ≤ 9999) ∧ (0 ≤ a2.toInt ∧ a2.toInt < (eA g0 233 0).toInt ∧ 0 ≤ a3.toInt ∧ a3.toInt < (eA g0 233 0).toInt) ∧ (eA g0 233 1).toInt < 8) ∧ i = 46 + 6 * (eA g0 233 1).toInt + 3) from fun z => kn z.1)).symm; refine Eq.trans ?_ (if_neg (show ¬ (((1 ≤ a1.toInt ∧ a1.toInt ≤ 9 ∧ 0 ≤ a4.toInt ∧ a4.toInt ≤ 99 ∧ 0 ≤ a5.toInt ∧ a5.toInt ≤ 9 ∧ 0 ≤ a6.toInt ∧ a6.toInt ≤ 9999) ∧ (0 ≤ a2.toInt ∧ a2.toInt < (eA g0 233 0).toInt ∧ 0 ≤ a3.toInt ∧ a3.toInt < (eA g0 233 0).toInt) ∧ (eA g0 233 1).toInt < 8) ∧ i = 46 + 6 * (eA g0 233 1).toInt + 4) from fun z => kn z.1)).symm; refine Eq.trans ?_ (if_neg (show ¬ (((1 ≤ a1.toInt ∧ a1.toInt ≤ 9 ∧ 0 ≤ a4.toInt ∧ a4.toInt ≤ 99 ∧ 0 ≤ a5.toInt ∧ a5.toInt ≤ 9 ∧ 0 ≤ a6.toInt ∧ a6.toInt ≤ 9999) ∧ (0 ≤ a2.toInt ∧ a2.toInt < (eA g0 233 0).toInt ∧ 0 ≤ a3.toInt ∧ a3.toInt < (eA g0 233 0).toInt) ∧ (eA g0 233 1).toInt < 8) ∧ i = 46 + 6 * (eA g0 233 1).toInt + 5) from fun z => kn z.1)).symm; refine (eA_ti (((hF597.2.1 233 ma_X11_tell_231_233).trans (gA_sI)))).trans ?_; (first | with_reducible rfl | omega | exact eA_ix (by omega) | rfl))⟩⟩
                      · have c594_ : v591.toInt ≥ 0 := en_j_lt_f c594
                        refine At.enter rfl ?_
                        refine r_lload_n rfl ?_
                        refine r_lload rfl ?_
                        refine r_lcmp _ rfl ?_
                        refine r_ifs 13 rfl (fun c623 => ?_) (fun c623 => ?_)
                        · have c623_ : v591.toInt > v593.toInt := en_j_gt_t c623
                          refine At.enter rfl ?_
                          refine r_iconst 0 rfl ?_
                          refine Ar.fall 18 rfl ?_
                          refine At.enter rfl ?_
                          refine q_iretz (by decide) ?_
                          refine At.enter rfl ?_
                          refine q_iretz (by decide) ?_
                          refine At.enter rfl ?_
                          refine r_iff 40 rfl (by decide) ?_
                          refine At.enter rfl ?_
                          refine r_aload_n rfl ?_
                          refine r_bipush (-2) rfl ?_
                          refine r_callV 46 rfl [.ref 231, .int (-2)] [] (Nat.le_of_ble_eq_true rfl) rfl (T_X11_tell_231 _ hI283 (-2) (by decide)) ?_
                          rintro _ _ ⟨g624, rfl, hI625, hF626, v627, rfl, hr628⟩
                          refine At.sti ?_
                          have hF629 := Fr.tr hF284 hF626 rfl rfl
                          have zv630 : ((-2) : Int32).toInt = (-2) := rfl
                          refine At.enter rfl ?_
                          refine r_ireti ?_
                          obtain ⟨v631, hv631⟩ : ∃ v, eA g0 233 1 = v := ⟨_, rfl⟩
                          have tv631 := congrArg Int32.toInt hv631
                          have wv631 := HI.t1 hI0
                          rw [hv631] at wv631
                          have tv631 := congrArg Int32.toInt hv631
                          have x632 := HI.eqA hI625 (p := 233) (j := 1) ((((eA_c (hF626.2.1 233 ma_X11_tell_231_233)).trans (eA_c gA_sI)).trans hv631))
                          have x633 := HI.eqA hI625 (p := 233) (j := 0) ((((eA_c (hF626.2.1 233 ma_X11_tell_231_233)).trans (eA_c gA_sI)).trans hv530))
                          obtain ⟨v634, hv634⟩ : ∃ v, eA g0 233 4 = v := ⟨_, rfl⟩
                          have wv634 := HI.t4 hI0
                          rw [hv634] at wv634
                          have tv634 := congrArg Int32.toInt hv634
                          have x635 := HI.eqA hI625 (p := 233) (j := 4) ((((eA_c (hF626.2.1 233 ma_X11_tell_231_233)).trans (eA_c gA_sI)).trans hv634))
                          obtain ⟨v636, hv636⟩ : ∃ v, eA g0 233 5 = v := ⟨_, rfl⟩
                          have wv636 := HI.t5 hI0
                          rw [hv636] at wv636
                          have tv636 := congrArg Int32.toInt hv636
                          have x637 := HI.eqA hI625 (p := 233) (j := 5) ((((eA_c (hF626.2.1 233 ma_X11_tell_231_233)).trans (eA_c gA_sI)).trans hv636))
                          obtain ⟨v638, hv638⟩ : ∃ v, eA g0 233 6 = v := ⟨_, rfl⟩
                          have wv638 := HI.t6 hI0
                          rw [hv638] at wv638
                          have tv638 := congrArg Int32.toInt hv638
                          have x639 := HI.eqA hI625 (p := 233) (j := 6) ((((eA_c (hF626.2.1 233 ma_X11_tell_231_233)).trans (eA_c gA_sI)).trans hv638))
                          obtain ⟨v640, hv640⟩ : ∃ v, eA g0 233 2 = v := ⟨_, rfl⟩
                          have tv640 := congrArg Int32.toInt hv640
                          have wv640 := HI.t2 hI0
                          rw [hv640] at wv640
                          have tv640 := congrArg Int32.toInt hv640
                          have x641 := HI.eqA hI625 (p := 233) (j := 2) ((((eA_c (hF626.2.1 233 ma_X11_tell_231_233)).trans (eA_c gA_sI)).trans hv640))
                          obtain ⟨v642, hv642⟩ : ∃ v, eA g0 233 3 = v := ⟨_, rfl⟩
                          have wv642 := HI.t3 hI0
                          rw [hv642] at wv642
                          have tv642 := congrArg Int32.toInt hv642
                          have x643 := HI.eqA hI625 (p := 233) (j := 3) ((((eA_c (hF626.2.1 233 ma_X11_tell_231_233)).trans (eA_c gA_sI)).trans hv642))
                          have x644 := HI.eqA hI0 (p := 233) (j := 1) (hv631)
                          have x645 := HI.eqA hI0 (p := 233) (j := 0) (hv530)
                          have x646 := HI.eqA hI0 (p := 233) (j := 0) (hv530)
                          have x647 := HI.eqA hI0 (p := 233) (j := 4) (hv634)
                          have x648 := HI.eqA hI0 (p := 233) (j := 5) (hv636)
                          have x649 := HI.eqA hI0 (p := 233) (j := 6) (hv638)
                          have x650 := HI.eqA hI0 (p := 233) (j := 2) (hv640)
                          have x651 := HI.eqA hI0 (p := 233) (j := 3) (hv642)
                          exact ⟨_, rfl, hI625, hF629, _, rfl, by omega, ⟨⟨by omega, by omega, by omega, by omega, by omega, by omega, by omega, by omega, by omega, by omega⟩, (by intro i i0 i1; refine (eA_ti (((hF626.2.1 233 ma_X11_tell_231_233).trans (gA_sI)))).trans ?_; (first | with_reducible rfl | omega | exact eA_ix (by omega) | rfl)), (by intro i i0 i1; refine (eA_ti (((hF626.2.1 233 ma_X11_tell_231_233).trans (gA_sI)))).trans ?_; (first | with_reducible rfl | omega | exact eA_ix (by omega) | rfl)), (by have kn : ¬ ((1 ≤ a1.toInt ∧ a1.toInt ≤ 9 ∧ 0 ≤ a4.toInt ∧ a4.toInt ≤ 99 ∧ 0 ≤ a5.toInt ∧ a5.toInt ≤ 9 ∧ 0 ≤ a6.toInt ∧ a6.toInt ≤ 9999) ∧ (0 ≤ a2.toInt ∧ a2.toInt < (eA g0 233 0).toInt ∧ 0 ≤ a3.toInt ∧ a3.toInt < (eA g0 233 0).toInt) ∧ (eA g0 233 1).toInt < 8) := (by omega); intro i i0 i1; refine Eq.trans ?_ (if_neg (show ¬ (((1 ≤ a1.toInt ∧ a1.toInt ≤ 9 ∧ 0 ≤ a4.toInt ∧ a4.toInt ≤ 99 ∧ 0 ≤ a5.toInt ∧ a5.toInt ≤ 9 ∧ 0 ≤ a6.toInt ∧ a6.toInt ≤ 9999) ∧ (0 ≤ a2.toInt ∧ a2.toInt < (eA g0 233 0).toInt ∧ 0 ≤ a3.toInt ∧ a3.toInt < (eA g0 233 0).toInt) ∧ (eA g0 233 1).toInt < 8) ∧ i = 46 + 6 * (eA g0 233 1).toInt + 0) from fun z => kn z.1)).symm; refine Eq.trans ?_ (if_neg (show ¬ (((1 ≤ a1.toInt ∧ a1.toInt ≤ 9 ∧ 0 ≤ a4.toInt ∧ a4.toInt ≤ 99 ∧ 0 ≤ a5.toInt ∧ a5.toInt ≤ 9 ∧ 0 ≤ a6.toInt ∧ a6.toInt ≤ 9999) ∧ (0 ≤ a2.toInt ∧ a2.toInt < (eA g0 233 0).toInt ∧ 0 ≤ a3.toInt ∧ a3.toInt < (eA g0 233 0).toInt) ∧ (eA g0 233 1).toInt < 8) ∧ i = 46 + 6 * (eA g0 233 1).toInt + 1) from fun z => kn z.1)).symm; refine Eq.trans ?_ (if_neg (show ¬ (((1 ≤ a1.toInt ∧ a1.toInt ≤ 9 ∧ 0 ≤ a4.toInt ∧ a4.toInt ≤ 99 ∧ 0 ≤ a5.toInt ∧ a5.toInt ≤ 9 ∧ 0 ≤ a6.toInt ∧ a6.toInt ≤ 9999) ∧ (0 ≤ a2.toInt ∧ a2.toInt < (eA g0 233 0).toInt ∧ 0 ≤ a3.toInt ∧ a3.toInt < (eA g0 233 0).toInt) ∧ (eA g0 233 1).toInt < 8) ∧ i = 46 + 6 * (eA g0 233 1).toInt + 2) from fun z => kn z.1)).symm; refine Eq.trans ?_ (if_neg (show ¬ (((1 ≤ a1.toInt ∧ a1.toInt ≤ 9 ∧ 0 ≤ a4.toInt ∧ a4.toInt ≤ 99 ∧ 0 ≤ a5.toInt ∧ a5.toInt ≤ 9 ∧ 0 ≤ a6.toInt ∧ a6.toInt ≤ 9999) ∧ (0 ≤ a2.toInt ∧ a2.toInt < (eA g0 233 0).toInt ∧ 0 ≤ a3.toInt ∧ a3.toInt < (eA g0 233 0).toInt) ∧ (eA g0 233 1).toInt < 8) ∧ i = 46 + 6 * (eA g0 233 1).toInt + 3) from fun z => kn z.1)).symm; refine Eq.trans ?_ (if_neg (show ¬ (((1 ≤ a1.toInt ∧ a1.toInt ≤ 9 ∧ 0 ≤ a4.toInt ∧ a4.toInt ≤ 99 ∧ 0 ≤ a5.toInt ∧ a5.toInt ≤ 9 ∧ 0 ≤ a6.toInt ∧ a6.toInt ≤ 9999) ∧ (0 ≤ a2.toInt ∧ a2.toInt < (eA g0 233 0).toInt ∧ 0 ≤ a3.toInt ∧ a3.toInt < (eA g0 233 0).toInt) ∧ (eA g0 233 1).toInt < 8) ∧ i = 46 + 6 * (eA g0 233 1).toInt + 4) from fun z => kn z.1)).symm; refine Eq.trans ?_ (if_neg (show ¬ (((1 ≤ a1.toInt ∧ a1.toInt ≤ 9 ∧ 0 ≤ a4.toInt ∧ a4.toInt ≤ 99 ∧ 0 ≤ a5.toInt ∧ a5.toInt ≤ 9 ∧ 0 ≤ a6.toInt ∧ a6.toInt ≤ 9999) ∧ (0 ≤ a2.toInt ∧ a2.toInt < (eA g0 233 0).toInt ∧ 0 ≤ a3.toInt ∧ a3.toInt < (eA g0 233 0).toInt) ∧ (eA g0 233 1).toInt < 8) ∧ i = 46 + 6 * (eA g0 233 1).toInt + 5) from fun z => kn z.1)).symm; refine (eA_ti (((hF626.2.1 233 ma_X11_tell_231_233).trans (gA_sI)))).trans ?_; (first | with_reducible rfl | omega | exact eA_ix (by omega) | rfl))⟩⟩
                        · have c623_ : v591.toInt ≤ v593.toInt := en_j_gt_f c623
                          refine At.enter rfl ?_
                          refine r_iconst 1 rfl ?_
                          refine r_goto ?_
                          refine At.enter rfl ?_
                          refine q_iretz (by decide) ?_
                          refine At.enter rfl ?_
                          refine q_iretz (by decide) ?_
                          refine At.enter rfl ?_
                          refine r_ift (by decide) ?_
                          refine At.enter rfl ?_
                          refine r_aload_n rfl ?_
                          refine q_getR (Sh.ref hI283.1 kx_231 rfl) ?_
                          refine r_iconst 1 rfl ?_
                          obtain ⟨v652, hv652⟩ : ∃ v, eA g0 233 1 = v := ⟨_, rfl⟩
                          have tv652 := congrArg Int32.toInt hv652
                          have wv652 := HI.t1 hI0
                          rw [hv652] at wv652
                          refine q_iald (Sh.arr hI283.1 ka_233) 1 rfl (by decide) v652 ((eA_c (gA_sI)).trans hv652) ?_
                          refine r_bipush 8 rfl ?_
                          refine r_ics 58 rfl (fun c653 => ?_) (fun c653 => ?_)
                          · have c653_ : v652.toInt ≠ 8 := en_i_ne_t c653
                            refine At.enter rfl ?_
                            refine r_aload_n rfl ?_
                            refine r_iload_n rfl ?_
                            refine r_iload_n rfl ?_
                            refine r_iload_n rfl ?_
                            refine r_iload rfl ?_
                            refine r_iload rfl ?_
                            refine r_iload rfl ?_
                            have x654 := HI.eqA hI283 (p := 233) (j := 0) (((eA_c gA_sI).trans hv530))
                            have x655 := HI.eqA hI283 (p := 233) (j := 1) (((eA_c gA_sI).trans hv652))
                            refine r_callV 78 rfl [.ref 231, .int a1, .int a2, .int a3, .int a4, .int a5, .int a6] [] (Nat.le_of_ble_eq_true rfl) rfl (T_X11_addLoad_231 _ hI283 a1 (by omega) a2 (by omega) a3 (by omega) a4 (by omega) a5 (by omega) a6 (by omega) (by omega) (by omega) (by omega)) ?_
                            rintro _ _ ⟨g656, rfl, hI657, hF658, rfl, hr660⟩
                            refine At.stn ?_
                            have hF661 := Fr.tr hF284 hF658 rfl rfl
                            obtain ⟨v662, hv662⟩ : ∃ v, eA g0 233 2 = v := ⟨_, rfl⟩
                            have tv662 := congrArg Int32.toInt hv662
                            have wv662 := HI.t2 hI0
                            rw [hv662] at wv662
                            have tv662 := congrArg Int32.toInt hv662
                            obtain ⟨v663, hv663⟩ : ∃ v, eA g0 233 4 = v := ⟨_, rfl⟩
                            have wv663 := HI.t4 hI0
                            rw [hv663] at wv663
                            have tv663 := congrArg Int32.toInt hv663
                            obtain ⟨v664, hv664⟩ : ∃ v, eA g0 233 5 = v := ⟨_, rfl⟩
                            have wv664 := HI.t5 hI0
                            rw [hv664] at wv664
                            have tv664 := congrArg Int32.toInt hv664
                            obtain ⟨v665, hv665⟩ : ∃ v, eA g0 233 6 = v := ⟨_, rfl⟩
                            have wv665 := HI.t6 hI0
                            rw [hv665] at wv665
                            have tv665 := congrArg Int32.toInt hv665
                            obtain ⟨v666, hv666⟩ : ∃ v, eA g0 233 3 = v := ⟨_, rfl⟩
                            have wv666 := HI.t3 hI0
                            rw [hv666] at wv666
                            have tv666 := congrArg Int32.toInt hv666
                            obtain ⟨v667, hv667⟩ : ∃ v, eA g656 233 1 = v := ⟨_, rfl⟩
                            have y668 := hr660.2.1
                            have tv667 := congrArg Int32.toInt hv667
                            have x669 := HI.eqA hI283 (p := 233) (j := 1) (((eA_c gA_sI).trans hv652))
                            have fq670 := hr660.2.2.2
                            rw [show (eA _ 233 1).toInt = (eA g0 233 1).toInt from eA_ti (j := 1) ((gA_sI))] at fq670
                            have lw_v667 := fun i h0 h1 => congrArg Int32.toInt (hr660.1 i (Int.le_trans (by decide) h0) h1 (fun e => absurd (e ▸ h0 : (10 : Int) ≤ 1) (by decide)))
                            refine At.enter rfl ?_
                            refine r_aload_n rfl ?_
                            refine r_aload_n rfl ?_
                            refine q_getR (Sh.ref hI657.1 kx_231 rfl) ?_
                            refine r_iconst 1 rfl ?_
                            refine q_iald (Sh.arr hI657.1 ka_233) 1 rfl (by decide) v667 hv667 ?_
                            refine r_iconst 1 rfl ?_
                            refine q_isub (v667.toInt - 1) rfl (by omega) (fun v671 hv671 => ?_)
                            refine r_callV 90 rfl [.ref 231, .int v671] [] (Nat.le_of_ble_eq_true rfl) rfl (T_X11_tell_231 _ hI657 v671 (by omega)) ?_
                            rintro _ _ ⟨g672, rfl, hI673, hF674, v675, rfl, hr676⟩
                            refine At.sti ?_
                            have hF677 := Fr.tr hF661 hF674 rfl rfl
                            refine At.enter rfl ?_
                            refine r_ireti ?_
                            have x678 := HI.eqA hI673 (p := 233) (j := 1) (((eA_c (hF674.2.1 233 ma_X11_tell_231_233)).trans hv667))
                            have x679 := HI.eqA hI673 (p := 233) (j := 0) (((eA_c (hF674.2.1 233 ma_X11_tell_231_233)).trans ((hr660.1 0 (by decide) (by decide) (by decide)).trans ((eA_c gA_sI).trans hv530))))
                            have x680 := HI.eqA hI673 (p := 233) (j := 4) (((eA_c (hF674.2.1 233 ma_X11_tell_231_233)).trans ((hr660.1 4 (by decide) (by decide) (by decide)).trans ((eA_c gA_sI).trans hv663))))
                            have x681 := HI.eqA hI673 (p := 233) (j := 5) (((eA_c (hF674.2.1 233 ma_X11_tell_231_233)).trans ((hr660.1 5 (by decide) (by decide) (by decide)).trans ((eA_c gA_sI).trans hv664))))
                            have x682 := HI.eqA hI673 (p := 233) (j := 6) (((eA_c (hF674.2.1 233 ma_X11_tell_231_233)).trans ((hr660.1 6 (by decide) (by decide) (by decide)).trans ((eA_c gA_sI).trans hv665))))
                            have x683 := HI.eqA hI673 (p := 233) (j := 2) (((eA_c (hF674.2.1 233 ma_X11_tell_231_233)).trans ((hr660.1 2 (by decide) (by decide) (by decide)).trans ((eA_c gA_sI).trans hv662))))
                            have x684 := HI.eqA hI673 (p := 233) (j := 3) (((eA_c (hF674.2.1 233 ma_X11_tell_231_233)).trans ((hr660.1 3 (by decide) (by decide) (by decide)).trans ((eA_c gA_sI).trans hv666))))
                            have x685 := HI.eqA hI0 (p := 233) (j := 1) (hv652)
                            have x686 := HI.eqA hI0 (p := 233) (j := 0) (hv530)
                            have x687 := HI.eqA hI0 (p := 233) (j := 0) (hv530)
                            have x688 := HI.eqA hI0 (p := 233) (j := 4) (hv663)
                            have x689 := HI.eqA hI0 (p := 233) (j := 5) (hv664)
                            have x690 := HI.eqA hI0 (p := 233) (j := 6) (hv665)
                            have x691 := HI.eqA hI0 (p := 233) (j := 2) (hv662)
                            have x692 := HI.eqA hI0 (p := 233) (j := 3) (hv666)
                            exact ⟨_, rfl, hI673, hF677, _, rfl, by omega, ⟨⟨by omega, by omega, by omega, by omega, by omega, by omega, by omega, by omega, by omega, by omega⟩, (by intro i i0 i1; refine (eA_ti ((hF674.2.1 233 ma_X11_tell_231_233))).trans ?_; (first | (refine ((lw_v667 (i) (by first | exact i0 | omega) (by first | exact i1 | omega))).trans ?_; refine (eA_ti ((gA_sI))).trans ?_; (first | with_reducible rfl | omega | exact eA_ix (by omega) | rfl)) | (refine ((hr660.2.2.1 (i) (by first | exact i0 | omega) (by first | exact i1 | omega))).trans ?_; refine (eA_ti ((gA_sI))).trans ?_; (first | with_reducible rfl | omega | exact eA_ix (by omega) | rfl)) | (refine ((fq670 (i) (by first | exact i0 | omega) (by first | exact i1 | omega))).trans ?_; exact (Decidable.em ((i) = 46 + 6 * (eA g0 233 1).toInt + 0)).elim (fun k233_ => by refine (if_pos k233_).trans ?_; (first | with_reducible rfl | omega | exact eA_ix (by omega) | rfl)) (fun k233_ => by refine (if_neg k233_).trans ?_; exact (Decidable.em ((i) = 46 + 6 * (eA g0 233 1).toInt + 1)).elim (fun k234_ => by refine (if_pos k234_).trans ?_; (first | with_reducible rfl | omega | exact eA_ix (by omega) | rfl)) (fun k234_ => by refine (if_neg k234_).trans ?_; exact (Decidable.em ((i) = 46 + 6 * (eA g0 233 1).toInt + 2)).elim (fun k235_ => by refine (if_pos k235_).trans ?_; (first | with_reducible rfl | omega | exact eA_ix (by omega) | rfl)) (fun k235_ => by refine (if_neg k235_).trans ?_; exact (Decidable.em ((i) = 46 + 6 * (eA g0 233 1).toInt + 3)).elim (fun k236_ => by refine (if_pos k236_).trans ?_; (first | with_reducible rfl | omega | exact eA_ix (by omega) | rfl)) (fun k236_ => by refine (if_neg k236_).trans ?_; exact (Decidable.em ((i) = 46 + 6 * (eA g0 233 1).toInt + 4)).elim (fun k237_ => by refine (if_pos k237_).trans ?_; (first | with_reducible rfl | omega | exact eA_ix (by omega) | rfl)) (fun k237_ => by refine (if_neg k237_).trans ?_; exact (Decidable.em ((i) = 46 + 6 * (eA g0 233 1).toInt + 5)).elim (fun k238_ => by refine (if_pos k238_).trans ?_; (first | with_reducible rfl | omega | exact eA_ix (by omega) | rfl)) (fun k238_ => by refine (if_neg k238_).trans ?_; refine (eA_ti ((gA_sI))).trans ?_; (first | with_reducible rfl | omega | exact eA_ix (by omega) | rfl)))))))))), (by intro i i0 i1; refine (eA_ti ((hF674.2.1 233 ma_X11_tell_231_233))).trans ?_; (first | (refine ((hr660.2.2.1 (i) (by first | exact i0 | omega) (by first | exact i1 | omega))).trans ?_; refine (eA_ti ((gA_sI))).trans ?_; (first | with_reducible rfl | omega | exact eA_ix (by omega) | rfl)) | (refine ((fq670 (i) (by first | exact i0 | omega) (by first | exact i1 | omega))).trans ?_; exact (Decidable.em ((i) = 46 + 6 * (eA g0 233 1).toInt + 0)).elim (fun k239_ => by refine (if_pos k239_).trans ?_; (first | with_reducible rfl | omega | exact eA_ix (by omega) | rfl)) (fun k239_ => by refine (if_neg k239_).trans ?_; exact (Decidable.em ((i) = 46 + 6 * (eA g0 233 1).toInt + 1)).elim (fun k240_ => by refine (if_pos k240_).trans ?_; (first | with_reducible rfl | omega | exact eA_ix (by omega) | rfl)) (fun k240_ => by refine (if_neg k240_).trans ?_; exact (Decidable.em ((i) = 46 + 6 * (eA g0 233 1).toInt + 2)).elim (fun k241_ => by refine (if_pos k241_).trans ?_; (first | with_reducible rfl | omega | exact eA_ix (by omega) | rfl)) (fun k241_ => by refine (if_neg k241_).trans ?_; exact (Decidable.em ((i) = 46 + 6 * (eA g0 233 1).toInt + 3)).elim (fun k242_ => by refine (if_pos k242_).trans ?_; (first | with_reducible rfl | omega | exact eA_ix (by omega) | rfl)) (fun k242_ => by refine (if_neg k242_).trans ?_; exact (Decidable.em ((i) = 46 + 6 * (eA g0 233 1).toInt + 4)).elim (fun k243_ => by refine (if_pos k243_).trans ?_; (first | with_reducible rfl | omega | exact eA_ix (by omega) | rfl)) (fun k243_ => by refine (if_neg k243_).trans ?_; exact (Decidable.em ((i) = 46 + 6 * (eA g0 233 1).toInt + 5)).elim (fun k244_ => by refine (if_pos k244_).trans ?_; (first | with_reducible rfl | omega | exact eA_ix (by omega) | rfl)) (fun k244_ => by refine (if_neg k244_).trans ?_; refine (eA_ti ((gA_sI))).trans ?_; (first | with_reducible rfl | omega | exact eA_ix (by omega) | rfl)))))))) | (refine ((lw_v667 (i) (by first | exact i0 | omega) (by first | exact i1 | omega))).trans ?_; refine (eA_ti ((gA_sI))).trans ?_; (first | with_reducible rfl | omega | exact eA_ix (by omega) | rfl)))), (by have kp : (1 ≤ a1.toInt ∧ a1.toInt ≤ 9 ∧ 0 ≤ a4.toInt ∧ a4.toInt ≤ 99 ∧ 0 ≤ a5.toInt ∧ a5.toInt ≤ 9 ∧ 0 ≤ a6.toInt ∧ a6.toInt ≤ 9999) ∧ (0 ≤ a2.toInt ∧ a2.toInt < (eA g0 233 0).toInt ∧ 0 ≤ a3.toInt ∧ a3.toInt < (eA g0 233 0).toInt) ∧ (eA g0 233 1).toInt < 8 := (by omega); intro i i0 i1; exact (Decidable.em (i = 46 + 6 * (eA g0 233 1).toInt + 0)).elim (fun k245_ => by refine Eq.trans ?_ (if_pos ⟨kp, k245_⟩).symm; refine (eA_ti ((hF674.2.1 233 ma_X11_tell_231_233))).trans ?_; (first | (refine ((fq670 (i) (by first | exact i0 | omega) (by first | exact i1 | omega))).trans ?_; refine (if_pos k245_).trans ?_; (first | with_reducible rfl | omega | exact eA_ix (by omega) | rfl)) | (refine ((hr660.2.2.1 (i) (by first | exact i0 | omega) (by first | exact i1 | omega))).trans ?_; refine (eA_ti ((gA_sI))).trans ?_; (first | with_reducible rfl | omega | exact eA_ix (by omega) | rfl)) | (refine ((lw_v667 (i) (by first | exact i0 | omega) (by first | exact i1 | omega))).trans ?_; refine (eA_ti ((gA_sI))).trans ?_; (first | with_reducible rfl | omega | exact eA_ix (by omega) | rfl)))) (fun k245_ => by refine Eq.trans ?_ (if_neg (fun z => k245_ z.2)).symm; exact (Decidable.em (i = 46 + 6 * (eA g0 233 1).toInt + 1)).elim (fun k246_ => by refine Eq.trans ?_ (if_pos ⟨kp, k246_⟩).symm; refine (eA_ti ((hF674.2.1 233 ma_X11_tell_231_233))).trans ?_; (first | (refine ((fq670 (i) (by first | exact i0 | omega) (by first | exact i1 | omega))).trans ?_; refine (if_neg k245_).trans ?_; refine (if_pos k246_).trans ?_; (first | with_reducible rfl | omega | exact eA_ix (by omega) | rfl)) | (refine ((hr660.2.2.1 (i) (by first | exact i0 | omega) (by first | exact i1 | omega))).trans ?_; refine (eA_ti ((gA_sI))).trans ?_; (first | with_reducible rfl | omega | exact eA_ix (by omega) | rfl)) | (refine ((lw_v667 (i) (by first | exact i0 | omega) (by first | exact i1 | omega))).trans ?_; refine (eA_ti ((gA_sI))).trans ?_; (first | with_reducible rfl | omega | exact eA_ix (by omega) | rfl)))) (fun k246_ => by refine Eq.trans ?_ (if_neg (fun z => k246_ z.2)).symm; exact (Decidable.em (i = 46 + 6 * (eA g0 233 1).toInt + 2)).elim (fun k247_ => by refine Eq.trans ?_ (if_pos ⟨kp, k247_⟩).symm; refine (eA_ti ((hF674.2.1 233 ma_X11_tell_231_233))).trans ?_; (first | (refine ((fq670 (i) (by first | exact i0 | omega) (by first | exact i1 | omega))).trans ?_; refine (if_neg k245_).trans ?_; refine (if_neg k246_).trans ?_; refine (if_pos k247_).trans ?_; (first | with_reducible rfl | omega | exact eA_ix (by omega) | rfl)) | (refine ((hr660.2.2.1 (i) (by first | exact i0 | omega) (by first | exact i1 | omega))).trans ?_; refine (eA_ti ((gA_sI))).trans ?_; (first | with_reducible rfl | omega | exact eA_ix (by omega) | rfl)) | (refine ((lw_v667 (i) (by first | exact i0 | omega) (by first | exact i1 | omega))).trans ?_; refine (eA_ti ((gA_sI))).trans ?_; (first | with_reducible rfl | omega | exact eA_ix (by omega) | rfl)))) (fun k247_ => by refine Eq.trans ?_ (if_neg (fun z => k247_ z.2)).symm; exact (Decidable.em (i = 46 + 6 * (eA g0 233 1).toInt + 3)).elim (fun k248_ => by refine Eq.trans ?_ (if_pos ⟨kp, k248_⟩).symm; refine (eA_ti ((hF674.2.1 233 ma_X11_tell_231_233))).trans ?_; (first | (refine ((fq670 (i) (by first | exact i0 | omega) (by first | exact i1 | omega))).trans ?_; refine (if_neg k245_).trans ?_; refine (if_neg k246_).trans ?_; refine (if_neg k247_).trans ?_; refine (if_pos k248_).trans ?_; (first | with_reducible rfl | omega | exact eA_ix (by omega) | rfl)) | (refine ((hr660.2.2.1 (i) (by first | exact i0 | omega) (by first | exact i1 | omega))).trans ?_; refine (eA_ti ((gA_sI))).trans ?_; (first | with_reducible rfl | omega | exact eA_ix (by omega) | rfl)) | (refine ((lw_v667 (i) (by first | exact i0 | omega) (by first | exact i1 | omega))).trans ?_; refine (eA_ti ((gA_sI))).trans ?_; (first | with_reducible rfl | omega | exact eA_ix (by omega) | rfl)))) (fun k248_ => by refine Eq.trans ?_ (if_neg (fun z => k248_ z.2)).symm; exact (Decidable.em (i = 46 + 6 * (eA g0 233 1).toInt + 4)).elim (fun k249_ => by refine Eq.trans ?_ (if_pos ⟨kp, k249_⟩).symm; refine (eA_ti ((hF674.2.1 233 ma_X11_tell_231_233))).trans ?_; (first | (refine ((fq670 (i) (by first | exact i0 | omega) (by first | exact i1 | omega))).trans ?_; refine (if_neg k245_).trans ?_; refine (if_neg k246_).trans ?_; refine (if_neg k247_).trans ?_; refine (if_neg k248_).trans ?_; refine (if_pos k249_).trans ?_; (first | with_reducible rfl | omega | exact eA_ix (by omega) | rfl)) | (refine ((hr660.2.2.1 (i) (by first | exact i0 | omega) (by first | exact i1 | omega))).trans ?_; refine (eA_ti ((gA_sI))).trans ?_; (first | with_reducible rfl | omega | exact eA_ix (by omega) | rfl)) | (refine ((lw_v667 (i) (by first | exact i0 | omega) (by first | exact i1 | omega))).trans ?_; refine (eA_ti ((gA_sI))).trans ?_; (first | with_reducible rfl | omega | exact eA_ix (by omega) | rfl)))) (fun k249_ => by refine Eq.trans ?_ (if_neg (fun z => k249_ z.2)).symm; exact (Decidable.em (i = 46 + 6 * (eA g0 233 1).toInt + 5)).elim (fun k250_ => by refine Eq.trans ?_ (if_pos ⟨kp, k250_⟩).symm; refine (eA_ti ((hF674.2.1 233 ma_X11_tell_231_233))).trans ?_; (first | (refine ((fq670 (i) (by first | exact i0 | omega) (by first | exact i1 | omega))).trans ?_; refine (if_neg k245_).trans ?_; refine (if_neg k246_).trans ?_; refine (if_neg k247_).trans ?_; refine (if_neg k248_).trans ?_; refine (if_neg k249_).trans ?_; refine (if_pos k250_).trans ?_; (first | with_reducible rfl | omega | exact eA_ix (by omega) | rfl)) | (refine ((hr660.2.2.1 (i) (by first | exact i0 | omega) (by first | exact i1 | omega))).trans ?_; refine (eA_ti ((gA_sI))).trans ?_; (first | with_reducible rfl | omega | exact eA_ix (by omega) | rfl)) | (refine ((lw_v667 (i) (by first | exact i0 | omega) (by first | exact i1 | omega))).trans ?_; refine (eA_ti ((gA_sI))).trans ?_; (first | with_reducible rfl | omega | exact eA_ix (by omega) | rfl)))) (fun k250_ => by refine Eq.trans ?_ (if_neg (fun z => k250_ z.2)).symm; refine (eA_ti ((hF674.2.1 233 ma_X11_tell_231_233))).trans ?_; (first | (refine ((fq670 (i) (by first | exact i0 | omega) (by first | exact i1 | omega))).trans ?_; refine (if_neg k245_).trans ?_; refine (if_neg k246_).trans ?_; refine (if_neg k247_).trans ?_; refine (if_neg k248_).trans ?_; refine (if_neg k249_).trans ?_; refine (if_neg k250_).trans ?_; refine (eA_ti ((gA_sI))).trans ?_; (first | with_reducible rfl | omega | exact eA_ix (by omega) | rfl)) | (refine ((hr660.2.2.1 (i) (by first | exact i0 | omega) (by first | exact i1 | omega))).trans ?_; refine (eA_ti ((gA_sI))).trans ?_; (first | with_reducible rfl | omega | exact eA_ix (by omega) | rfl)) | (refine ((lw_v667 (i) (by first | exact i0 | omega) (by first | exact i1 | omega))).trans ?_; refine (eA_ti ((gA_sI))).trans ?_; (first | with_reducible rfl | omega | exact eA_ix (by omega) | rfl))))))))))⟩⟩
                          · have c653_ : v652.toInt = 8 := en_i_ne_f c653
                            refine At.enter rfl ?_
                            refine r_aload_n rfl ?_
                            refine r_bipush (-5) rfl ?_
                            refine r_callV 64 rfl [.ref 231, .int (-5)] [] (Nat.le_of_ble_eq_true rfl) rfl (T_X11_tell_231 _ hI283 (-5) (by decide)) ?_
                            rintro _ _ ⟨g693, rfl, hI694, hF695, v696, rfl, hr697⟩
                            refine At.sti ?_
                            have hF698 := Fr.tr hF284 hF695 rfl rfl
                            have zv699 : ((-5) : Int32).toInt = (-5) := rfl
                            refine At.enter rfl ?_
                            refine r_ireti ?_
                            have x700 := HI.eqA hI694 (p := 233) (j := 1) ((((eA_c (hF695.2.1 233 ma_X11_tell_231_233)).trans (eA_c gA_sI)).trans hv652))
                            have x701 := HI.eqA hI694 (p := 233) (j := 0) ((((eA_c (hF695.2.1 233 ma_X11_tell_231_233)).trans (eA_c gA_sI)).trans hv530))
                            obtain ⟨v702, hv702⟩ : ∃ v, eA g0 233 4 = v := ⟨_, rfl⟩
                            have wv702 := HI.t4 hI0
                            rw [hv702] at wv702
                            have tv702 := congrArg Int32.toInt hv702
                            have x703 := HI.eqA hI694 (p := 233) (j := 4) ((((eA_c (hF695.2.1 233 ma_X11_tell_231_233)).trans (eA_c gA_sI)).trans hv702))
                            obtain ⟨v704, hv704⟩ : ∃ v, eA g0 233 5 = v := ⟨_, rfl⟩
                            have wv704 := HI.t5 hI0
                            rw [hv704] at wv704
                            have tv704 := congrArg Int32.toInt hv704
                            have x705 := HI.eqA hI694 (p := 233) (j := 5) ((((eA_c (hF695.2.1 233 ma_X11_tell_231_233)).trans (eA_c gA_sI)).trans hv704))
                            obtain ⟨v706, hv706⟩ : ∃ v, eA g0 233 6 = v := ⟨_, rfl⟩
                            have wv706 := HI.t6 hI0
                            rw [hv706] at wv706
                            have tv706 := congrArg Int32.toInt hv706
                            have x707 := HI.eqA hI694 (p := 233) (j := 6) ((((eA_c (hF695.2.1 233 ma_X11_tell_231_233)).trans (eA_c gA_sI)).trans hv706))
                            obtain ⟨v708, hv708⟩ : ∃ v, eA g0 233 2 = v := ⟨_, rfl⟩
                            have tv708 := congrArg Int32.toInt hv708
                            have wv708 := HI.t2 hI0
                            rw [hv708] at wv708
                            have tv708 := congrArg Int32.toInt hv708
                            have x709 := HI.eqA hI694 (p := 233) (j := 2) ((((eA_c (hF695.2.1 233 ma_X11_tell_231_233)).trans (eA_c gA_sI)).trans hv708))
                            obtain ⟨v710, hv710⟩ : ∃ v, eA g0 233 3 = v := ⟨_, rfl⟩
                            have wv710 := HI.t3 hI0
                            rw [hv710] at wv710
                            have tv710 := congrArg Int32.toInt hv710
                            have x711 := HI.eqA hI694 (p := 233) (j := 3) ((((eA_c (hF695.2.1 233 ma_X11_tell_231_233)).trans (eA_c gA_sI)).trans hv710))
                            have x712 := HI.eqA hI0 (p := 233) (j := 1) (hv652)
                            have x713 := HI.eqA hI0 (p := 233) (j := 0) (hv530)
                            have x714 := HI.eqA hI0 (p := 233) (j := 0) (hv530)
                            have x715 := HI.eqA hI0 (p := 233) (j := 4) (hv702)
                            have x716 := HI.eqA hI0 (p := 233) (j := 5) (hv704)
                            have x717 := HI.eqA hI0 (p := 233) (j := 6) (hv706)
                            have x718 := HI.eqA hI0 (p := 233) (j := 2) (hv708)
                            have x719 := HI.eqA hI0 (p := 233) (j := 3) (hv710)
                            exact ⟨_, rfl, hI694, hF698, _, rfl, by omega, ⟨⟨by omega, by omega, by omega, by omega, by omega, by omega, by omega, by omega, by omega, by omega⟩, (by intro i i0 i1; refine (eA_ti (((hF695.2.1 233 ma_X11_tell_231_233).trans (gA_sI)))).trans ?_; (first | with_reducible rfl | omega | exact eA_ix (by omega) | rfl)), (by intro i i0 i1; refine (eA_ti (((hF695.2.1 233 ma_X11_tell_231_233).trans (gA_sI)))).trans ?_; (first | with_reducible rfl | omega | exact eA_ix (by omega) | rfl)), (by have kn : ¬ ((1 ≤ a1.toInt ∧ a1.toInt ≤ 9 ∧ 0 ≤ a4.toInt ∧ a4.toInt ≤ 99 ∧ 0 ≤ a5.toInt ∧ a5.toInt ≤ 9 ∧ 0 ≤ a6.toInt ∧ a6.toInt ≤ 9999) ∧ (0 ≤ a2.toInt ∧ a2.toInt < (eA g0 233 0).toInt ∧ 0 ≤ a3.toInt ∧ a3.toInt < (eA g0 233 0).toInt) ∧ (eA g0 233 1).toInt < 8) := (by omega); intro i i0 i1; refine Eq.trans ?_ (if_neg (show ¬ (((1 ≤ a1.toInt ∧ a1.toInt ≤ 9 ∧ 0 ≤ a4.toInt ∧ a4.toInt ≤ 99 ∧ 0 ≤ a5.toInt ∧ a5.toInt ≤ 9 ∧ 0 ≤ a6.toInt ∧ a6.toInt ≤ 9999) ∧ (0 ≤ a2.toInt ∧ a2.toInt < (eA g0 233 0).toInt ∧ 0 ≤ a3.toInt ∧ a3.toInt < (eA g0 233 0).toInt) ∧ (eA g0 233 1).toInt < 8) ∧ i = 46 + 6 * (eA g0 233 1).toInt + 0) from fun z => kn z.1)).symm; refine Eq.trans ?_ (if_neg (show ¬ (((1 ≤ a1.toInt ∧ a1.toInt ≤ 9 ∧ 0 ≤ a4.toInt ∧ a4.toInt ≤ 99 ∧ 0 ≤ a5.toInt ∧ a5.toInt ≤ 9 ∧ 0 ≤ a6.toInt ∧ a6.toInt ≤ 9999) ∧ (0 ≤ a2.toInt ∧ a2.toInt < (eA g0 233 0).toInt ∧ 0 ≤ a3.toInt ∧ a3.toInt < (eA g0 233 0).toInt) ∧ (eA g0 233 1).toInt < 8) ∧ i = 46 + 6 * (eA g0 233 1).toInt + 1) from fun z => kn z.1)).symm; refine Eq.trans ?_ (if_neg (show ¬ (((1 ≤ a1.toInt ∧ a1.toInt ≤ 9 ∧ 0 ≤ a4.toInt ∧ a4.toInt ≤ 99 ∧ 0 ≤ a5.toInt ∧ a5.toInt ≤ 9 ∧ 0 ≤ a6.toInt ∧ a6.toInt ≤ 9999) ∧ (0 ≤ a2.toInt ∧ a2.toInt < (eA g0 233 0).toInt ∧ 0 ≤ a3.toInt ∧ a3.toInt < (eA g0 233 0).toInt) ∧ (eA g0 233 1).toInt < 8) ∧ i = 46 + 6 * (eA g0 233 1).toInt + 2) from fun z => kn z.1)).symm; refine Eq.trans ?_ (if_neg (show ¬ (((1 ≤ a1.toInt ∧ a1.toInt ≤ 9 ∧ 0 ≤ a4.toInt ∧ a4.toInt ≤ 99 ∧ 0 ≤ a5.toInt ∧ a5.toInt ≤ 9 ∧ 0 ≤ a6.toInt ∧ a6.toInt ≤ 9999) ∧ (0 ≤ a2.toInt ∧ a2.toInt < (eA g0 233 0).toInt ∧ 0 ≤ a3.toInt ∧ a3.toInt < (eA g0 233 0).toInt) ∧ (eA g0 233 1).toInt < 8) ∧ i = 46 + 6 * (eA g0 233 1).toInt + 3) from fun z => kn z.1)).symm; refine Eq.trans ?_ (if_neg (show ¬ (((1 ≤ a1.toInt ∧ a1.toInt ≤ 9 ∧ 0 ≤ a4.toInt ∧ a4.toInt ≤ 99 ∧ 0 ≤ a5.toInt ∧ a5.toInt ≤ 9 ∧ 0 ≤ a6.toInt ∧ a6.toInt ≤ 9999) ∧ (0 ≤ a2.toInt ∧ a2.toInt < (eA g0 233 0).toInt ∧ 0 ≤ a3.toInt ∧ a3.toInt < (eA g0 233 0).toInt) ∧ (eA g0 233 1).toInt < 8) ∧ i = 46 + 6 * (eA g0 233 1).toInt + 4) from fun z => kn z.1)).symm; refine Eq.trans ?_ (if_neg (show ¬ (((1 ≤ a1.toInt ∧ a1.toInt ≤ 9 ∧ 0 ≤ a4.toInt ∧ a4.toInt ≤ 99 ∧ 0 ≤ a5.toInt ∧ a5.toInt ≤ 9 ∧ 0 ≤ a6.toInt ∧ a6.toInt ≤ 9999) ∧ (0 ≤ a2.toInt ∧ a2.toInt < (eA g0 233 0).toInt ∧ 0 ≤ a3.toInt ∧ a3.toInt < (eA g0 233 0).toInt) ∧ (eA g0 233 1).toInt < 8) ∧ i = 46 + 6 * (eA g0 233 1).toInt + 5) from fun z => kn z.1)).symm; refine (eA_ti (((hF695.2.1 233 ma_X11_tell_231_233).trans (gA_sI)))).trans ?_; (first | with_reducible rfl | omega | exact eA_ix (by omega) | rfl))⟩⟩
