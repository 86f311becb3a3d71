def F_X11_addLoad_231 : List (Nat × Nat) := []
def A_X11_addLoad_231 : List Nat := [233]
set_option maxRecDepth 100000 in
set_option maxHeartbeats 4000000 in
theorem T_X11_addLoad_231 (d : Nat) {N : Nat} {g0 : List en_E} (hI0 : HI g0) (a1 : Int32) (h_a1 : 1 ≤ a1.toInt ∧ a1.toInt ≤ 9) (a2 : Int32) (h_a2 : 0 ≤ a2.toInt ∧ a2.toInt ≤ 11) (a3 : Int32) (h_a3 : 0 ≤ a3.toInt ∧ a3.toInt ≤ 11) (a4 : Int32) (h_a4 : 0 ≤ a4.toInt ∧ a4.toInt ≤ 99) (a5 : Int32) (h_a5 : 0 ≤ a5.toInt ∧ a5.toInt ≤ 9) (a6 : Int32) (h_a6 : 0 ≤ a6.toInt ∧ a6.toInt ≤ 9999) (h1 : (eA g0 233 1).toInt < 8) (h2 : a2.toInt < (eA g0 233 0).toInt) (h3 : a3.toInt < (eA g0 233 0).toInt) : Ev (d + 1) 177 [.ref 231, .int a1, .int a2, .int a3, .int a4, .int a5, .int a6] (g0, N) (fun w h' => ∃ g', h' = (g', N) ∧ HI g' ∧ Fr F_X11_addLoad_231 A_X11_addLoad_231 g0 g' ∧ w = none ∧ ((∀ i : Int, 0 ≤ i → i < 46 → i ≠ 1 → eA g' 233 i = eA g0 233 i) ∧ (eA g' 233 1).toInt = (eA g0 233 1).toInt + 1 ∧ (∀ i : Int, 94 ≤ i → i < 110 → (eA g' 233 (i)).toInt = (eA g0 233 (i)).toInt) ∧ (∀ i : Int, 46 ≤ i → i < 94 → (eA g' 233 (i)).toInt = if i = 46 + 6 * (eA g0 233 1).toInt + 0 then a1.toInt else if i = 46 + 6 * (eA g0 233 1).toInt + 1 then a2.toInt else if i = 46 + 6 * (eA g0 233 1).toInt + 2 then a3.toInt else if i = 46 + 6 * (eA g0 233 1).toInt + 3 then a4.toInt else if i = 46 + 6 * (eA g0 233 1).toInt + 4 then a5.toInt else if i = 46 + 6 * (eA g0 233 1).toInt + 5 then a6.toInt else (eA g0 233 (i)).toInt))) := by
  have hF0 : Fr F_X11_addLoad_231 A_X11_addLoad_231 g0 g0 := Fr.rf
  refine Ev.mk rfl rfl ⟨Nat.le_of_ble_eq_true rfl, Or.inr (q_rc hI0.1 kx_231 rfl)⟩ ?_
  show At _ none _ _ (0, [(0, .ref 231), (1, .int a1), (2, .int a2), (3, .int a3), (4, .int a4), (5, .int a5), (6, .int a6)], [], (_, _)) _
  refine At.enter rfl ?_
  refine r_bipush 46 rfl ?_
  refine r_bipush 6 rfl ?_
  refine r_aload_n rfl ?_
  refine q_getR (Sh.ref hI0.1 kx_231 rfl) ?_
  refine r_iconst 1 rfl ?_
  obtain ⟨v59, hv59⟩ : ∃ v, eA g0 233 1 = v := ⟨_, rfl⟩
  have tv59 := congrArg Int32.toInt hv59
  have wv59 := HI.t1 hI0
  rw [hv59] at wv59
  have uv59 := h1; rw [hv59] at uv59
  refine q_iald (Sh.arr hI0.1 ka_233) 1 rfl (by decide) v59 hv59 ?_
  refine q_imul (6 * v59.toInt) rfl (by omega) (fun v60 hv60 => ?_)
  refine q_iadd (46 + v60.toInt) rfl (by omega) (fun v61 hv61 => ?_)
  refine r_istore ([(7, .int v61), (0, .ref 231), (1, .int a1), (2, .int a2), (3, .int a3), (4, .int a4), (5, .int a5), (6, .int a6)]) rfl ?_
  refine r_aload_n rfl ?_
  refine q_getR (Sh.ref hI0.1 kx_231 rfl) ?_
  refine r_iload rfl ?_
  refine r_iload_n rfl ?_
  refine q_iast (Sh.arr hI0.1 ka_233) ((6 * v59.toInt + 46)) (by omega) (by omega) ?_
  have hI62 := HI.wl hI0 (j := (6 * v59.toInt + 46)) (v := a1) (v59.toInt) 0 (by omega) (by decide) (by omega) (by omega)
  have hF63 := Fr.wA (p := 233) (j := (6 * v59.toInt + 46)) (v := a1) hF0 rfl
  refine r_aload_n rfl ?_
  refine q_getR (Sh.ref hI62.1 kx_231 rfl) ?_
  refine r_iload rfl ?_
  refine r_iconst 1 rfl ?_
  refine q_iadd (v61.toInt + 1) rfl (by omega) (fun v64 hv64 => ?_)
  refine r_iload_n rfl ?_
  refine q_iast (Sh.arr hI62.1 ka_233) ((6 * v59.toInt + 47)) (by omega) (by omega) ?_
  obtain ⟨v67, hv67⟩ : ∃ v, eA g0 233 0 = v := ⟨_, rfl⟩
  have tv67 := congrArg Int32.toInt hv67
  have wv67 := HI.t0 hI0
  rw [hv67] at wv67
  have uv67 := h2; rw [hv67] at uv67
  have wv67_ := h3; rw [hv67] at wv67_
  have tv67 := congrArg Int32.toInt hv67
  have x68 := HI.eqA hI62 (p := 233) (j := 0) (((eA_sA_ne hI0.1 ka_233 (by first | decide | omega) (by first | decide | omega) (by first | decide | omega)).trans hv67))
  have hI65 := HI.wl hI62 (j := (6 * v59.toInt + 47)) (v := a2) (v59.toInt) 1 (by omega) (by decide) (by omega) (by omega)
  have hF66 := Fr.wA (p := 233) (j := (6 * v59.toInt + 47)) (v := a2) hF63 rfl
  refine r_aload_n rfl ?_
  refine q_getR (Sh.ref hI65.1 kx_231 rfl) ?_
  refine r_iload rfl ?_
  refine r_iconst 2 rfl ?_
  refine q_iadd (v61.toInt + 2) rfl (by omega) (fun v69 hv69 => ?_)
  refine r_iload_n rfl ?_
  refine q_iast (Sh.arr hI65.1 ka_233) ((6 * v59.toInt + 48)) (by omega) (by omega) ?_
  have x72 := HI.eqA hI65 (p := 233) (j := 0) ((((eA_sA_ne hI62.1 ka_233 (by first | decide | omega) (by first | decide | omega) (by first | decide | omega)).trans (eA_sA_ne hI0.1 ka_233 (by first | decide | omega) (by first | decide | omega) (by first | decide | omega))).trans hv67))
  have hI70 := HI.wl hI65 (j := (6 * v59.toInt + 48)) (v := a3) (v59.toInt) 2 (by omega) (by decide) (by omega) (by omega)
  have hF71 := Fr.wA (p := 233) (j := (6 * v59.toInt + 48)) (v := a3) hF66 rfl
  refine r_aload_n rfl ?_
  refine q_getR (Sh.ref hI70.1 kx_231 rfl) ?_
  refine r_iload rfl ?_
  refine r_iconst 3 rfl ?_
  refine q_iadd (v61.toInt + 3) rfl (by omega) (fun v73 hv73 => ?_)
  refine r_iload rfl ?_
  refine q_iast (Sh.arr hI70.1 ka_233) ((6 * v59.toInt + 49)) (by omega) (by omega) ?_
  have hI74 := HI.wl hI70 (j := (6 * v59.toInt + 49)) (v := a4) (v59.toInt) 3 (by omega) (by decide) (by omega) (by omega)
  have hF75 := Fr.wA (p := 233) (j := (6 * v59.toInt + 49)) (v := a4) hF71 rfl
  refine r_aload_n rfl ?_
  refine q_getR (Sh.ref hI74.1 kx_231 rfl) ?_
  refine r_iload rfl ?_
  refine r_iconst 4 rfl ?_
  refine q_iadd (v61.toInt + 4) rfl (by omega) (fun v76 hv76 => ?_)
  refine r_iload rfl ?_
  refine q_iast (Sh.arr hI74.1 ka_233) ((6 * v59.toInt + 50)) (by omega) (by omega) ?_
  have hI77 := HI.wl hI74 (j := (6 * v59.toInt + 50)) (v := a5) (v59.toInt) 4 (by omega) (by decide) (by omega) (by omega)
  have hF78 := Fr.wA (p := 233) (j := (6 * v59.toInt + 50)) (v := a5) hF75 rfl
  refine r_aload_n rfl ?_
  refine q_getR (Sh.ref hI77.1 kx_231 rfl) ?_
  refine r_iload rfl ?_
  refine r_iconst 5 rfl ?_
  refine q_iadd (v61.toInt + 5) rfl (by omega) (fun v79 hv79 => ?_)
  refine r_iload rfl ?_
  refine q_iast (Sh.arr hI77.1 ka_233) ((6 * v59.toInt + 51)) (by omega) (by omega) ?_
  have hI80 := HI.wl hI77 (j := (6 * v59.toInt + 51)) (v := a6) (v59.toInt) 5 (by omega) (by decide) (by omega) (by omega)
  have hF81 := Fr.wA (p := 233) (j := (6 * v59.toInt + 51)) (v := a6) hF78 rfl
  refine r_aload_n rfl ?_
  refine q_getR (Sh.ref hI80.1 kx_231 rfl) ?_
  refine r_iconst 1 rfl ?_
  refine r_dup2 ⟨rfl, rfl⟩ ?_
  refine q_iald (Sh.arr hI80.1 ka_233) 1 rfl (by decide) v59 (((eA_sA_ne hI77.1 ka_233 (by first | decide | omega) (by first | decide | omega) (by first | decide | omega)).trans ((eA_sA_ne hI74.1 ka_233 (by first | decide | omega) (by first | decide | omega) (by first | decide | omega)).trans ((eA_sA_ne hI70.1 ka_233 (by first | decide | omega) (by first | decide | omega) (by first | decide | omega)).trans ((eA_sA_ne hI65.1 ka_233 (by first | decide | omega) (by first | decide | omega) (by first | decide | omega)).trans ((eA_sA_ne hI62.1 ka_233 (by first | decide | omega) (by first | decide | omega) (by first | decide | omega)).trans (eA_sA_ne hI0.1 ka_233 (by first | decide | omega) (by first | decide | omega) (by first | decide | omega))))))).trans hv59) ?_
  refine r_iconst 1 rfl ?_
  refine q_iadd (v59.toInt + 1) rfl (by omega) (fun v82 hv82 => ?_)
  refine q_iast (Sh.arr hI80.1 ka_233) (1) rfl (by decide) ?_
  have x85 := HI.eqA hI80 (p := 233) (j := 0) ((((eA_sA_ne hI77.1 ka_233 (by first | decide | omega) (by first | decide | omega) (by first | decide | omega)).trans ((eA_sA_ne hI74.1 ka_233 (by first | decide | omega) (by first | decide | omega) (by first | decide | omega)).trans ((eA_sA_ne hI70.1 ka_233 (by first | decide | omega) (by first | decide | omega) (by first | decide | omega)).trans ((eA_sA_ne hI65.1 ka_233 (by first | decide | omega) (by first | decide | omega) (by first | decide | omega)).trans ((eA_sA_ne hI62.1 ka_233 (by first | decide | omega) (by first | decide | omega) (by first | decide | omega)).trans (eA_sA_ne hI0.1 ka_233 (by first | decide | omega) (by first | decide | omega) (by first | decide | omega))))))).trans hv67))
  have x86 := HI.eqA hI80 (p := 233) (j := 1) ((((eA_sA_ne hI77.1 ka_233 (by first | decide | omega) (by first | decide | omega) (by first | decide | omega)).trans ((eA_sA_ne hI74.1 ka_233 (by first | decide | omega) (by first | decide | omega) (by first | decide | omega)).trans ((eA_sA_ne hI70.1 ka_233 (by first | decide | omega) (by first | decide | omega) (by first | decide | omega)).trans ((eA_sA_ne hI65.1 ka_233 (by first | decide | omega) (by first | decide | omega) (by first | decide | omega)).trans ((eA_sA_ne hI62.1 ka_233 (by first | decide | omega) (by first | decide | omega) (by first | decide | omega)).trans (eA_sA_ne hI0.1 ka_233 (by first | decide | omega) (by first | decide | omega) (by first | decide | omega))))))).trans hv59))
  have yv87 := HI.lt hI80
  have hI83 := HI.wt hI80 (j := 1) (v := v82) (by omega) (by omega)
  have hF84 := Fr.wA (p := 233) (j := 1) (v := v82) hF81 rfl
  refine r_vret ?_
  have x88 := HI.eqA hI83 (p := 233) (j := 1) ((eA_sA_eq hI80.1 ka_233 (by first | rfl | omega) (by first | decide | omega) (by first | decide | omega)))
  have x89 := HI.eqA hI0 (p := 233) (j := 1) (hv59)
  have x90 := HI.eqA hI0 (p := 233) (j := 0) (hv67)
  exact ⟨_, rfl, hI83, hF84, rfl, ⟨(fun i i0 i1 i2 => ((eA_sA_ne (i := i) hI80.1 ka_233 (by omega) (by first | decide | omega) (by omega)).trans ((eA_sA_ne (i := i) hI77.1 ka_233 (by omega) (by first | decide | omega) (by omega)).trans ((eA_sA_ne (i := i) hI74.1 ka_233 (by omega) (by first | decide | omega) (by omega)).trans ((eA_sA_ne (i := i) hI70.1 ka_233 (by omega) (by first | decide | omega) (by omega)).trans ((eA_sA_ne (i := i) hI65.1 ka_233 (by omega) (by first | decide | omega) (by omega)).trans ((eA_sA_ne (i := i) hI62.1 ka_233 (by omega) (by first | decide | omega) (by omega)).trans (eA_sA_ne (i := i) hI0.1 ka_233 (by omega) (by first | decide | omega) (by omega))))))))), by omega, (by intro i i0 i1; exact (Decidable.em (i = 1)).elim (fun k171_ => by refine (eA_eqT hI80.1 ka_233 k171_ (by first | decide | omega) (by first | decide | omega)).trans ?_; (first | (with_reducible rfl) | (omega) | (rfl))) (fun k171_ => by refine (eA_neT hI80.1 ka_233 k171_ (by first | decide | omega) (by omega)).trans ?_; exact (Decidable.em (i = (6 * v59.toInt + 51))).elim (fun k172_ => by refine (eA_eqT hI77.1 ka_233 k172_ (by first | decide | omega) (by first | decide | omega)).trans ?_; (first | (with_reducible rfl) | (omega) | (rfl))) (fun k172_ => by refine (eA_neT hI77.1 ka_233 k172_ (by first | decide | omega) (by omega)).trans ?_; exact (Decidable.em (i = (6 * v59.toInt + 50))).elim (fun k173_ => by refine (eA_eqT hI74.1 ka_233 k173_ (by first | decide | omega) (by first | decide | omega)).trans ?_; (first | (with_reducible rfl) | (omega) | (rfl))) (fun k173_ => by refine (eA_neT hI74.1 ka_233 k173_ (by first | decide | omega) (by omega)).trans ?_; exact (Decidable.em (i = (6 * v59.toInt + 49))).elim (fun k174_ => by refine (eA_eqT hI70.1 ka_233 k174_ (by first | decide | omega) (by first | decide | omega)).trans ?_; (first | (with_reducible rfl) | (omega) | (rfl))) (fun k174_ => by refine (eA_neT hI70.1 ka_233 k174_ (by first | decide | omega) (by omega)).trans ?_; exact (Decidable.em (i = (6 * v59.toInt + 48))).elim (fun k175_ => by refine (eA_eqT hI65.1 ka_233 k175_ (by first | decide | omega) (by first | decide | omega)).trans ?_; (first | (with_reducible rfl) | (omega) | (rfl))) (fun k175_ => by refine (eA_neT hI65.1 ka_233 k175_ (by first | decide | omega) (by omega)).trans ?_; exact (Decidable.em (i = (6 * v59.toInt + 47))).elim (fun k176_ => by refine (eA_eqT hI62.1 ka_233 k176_ (by first | decide | omega) (by first | decide | omega)).trans ?_; (first | (with_reducible rfl) | (omega) | (rfl))) (fun k176_ => by refine (eA_neT hI62.1 ka_233 k176_ (by first | decide | omega) (by omega)).trans ?_; exact (Decidable.em (i = (6 * v59.toInt + 46))).elim (fun k177_ => by refine (eA_eqT hI0.1 ka_233 k177_ (by first | decide | omega) (by first | decide | omega)).trans ?_; (first | (with_reducible rfl) | (omega) | (rfl))) (fun k177_ => by refine (eA_neT hI0.1 ka_233 k177_ (by first | decide | omega) (by omega)).trans ?_; (first | with_reducible rfl | omega | exact eA_ix (by omega) | rfl))))))))), (by intro i i0 i1; exact (Decidable.em (i = 46 + 6 * (eA g0 233 1).toInt + 0)).elim (fun k178_ => by refine Eq.trans ?_ (if_pos k178_).symm; exact (Decidable.em (i = 1)).elim (fun k179_ => by refine (eA_eqT hI80.1 ka_233 k179_ (by first | decide | omega) (by first | decide | omega)).trans ?_; (first | (with_reducible rfl) | (omega) | (rfl))) (fun k179_ => by refine (eA_neT hI80.1 ka_233 k179_ (by first | decide | omega) (by omega)).trans ?_; exact (Decidable.em (i = (6 * v59.toInt + 51))).elim (fun k180_ => by refine (eA_eqT hI77.1 ka_233 k180_ (by first | decide | omega) (by first | decide | omega)).trans ?_; (first | (with_reducible rfl) | (omega) | (rfl))) (fun k180_ => by refine (eA_neT hI77.1 ka_233 k180_ (by first | decide | omega) (by omega)).trans ?_; exact (Decidable.em (i = (6 * v59.toInt + 50))).elim (fun k181_ => by refine (eA_eqT hI74.1 ka_233 k181_ (by first | decide | omega) (by first | decide | omega)).trans ?_; (first | (with_reducible rfl) | (omega) | (rfl))) (fun k181_ => by refine (eA_neT hI74.1 ka_233 k181_ (by first | decide | omega) (by omega)).trans ?_; exact (Decidable.em (i = (6 * v59.toInt + 49))).elim (fun k182_ => by refine (eA_eqT hI70.1 ka_233 k182_ (by first | decide | omega) (by first | decide | omega)).trans ?_; (first | (with_reducible rfl) | (omega) | (rfl))) (fun k182_ => by refine (eA_neT hI70.1 ka_233 k182_ (by first | decide | omega) (by omega)).trans ?_; exact (Decidable.em (i = (6 * v59.toInt + 48))).elim (fun k183_ => by refine (eA_eqT hI65.1 ka_233 k183_ (by first | decide | omega) (by first | decide | omega)).trans ?_; (first | (with_reducible rfl) | (omega) | (rfl))) (fun k183_ => by refine (eA_neT hI65.1 ka_233 k183_ (by first | decide | omega) (by omega)).trans ?_; exact (Decidable.em (i = (6 * v59.toInt + 47))).elim (fun k184_ => by refine (eA_eqT hI62.1 ka_233 k184_ (by first | decide | omega) (by first | decide | omega)).trans ?_; (first | (with_reducible rfl) | (omega) | (rfl))) (fun k184_ => by refine (eA_neT hI62.1 ka_233 k184_ (by first | decide | omega) (by omega)).trans ?_; exact (Decidable.em (i = (6 * v59.toInt + 46))).elim (fun k185_ => by refine (eA_eqT hI0.1 ka_233 k185_ (by first | decide | omega) (by first | decide | omega)).trans ?_; (first | (with_reducible rfl) | (omega) | (rfl))) (fun k185_ => by refine (eA_neT hI0.1 ka_233 k185_ (by first | decide | omega) (by omega)).trans ?_; (first | with_reducible rfl | omega | exact eA_ix (by omega) | rfl))))))))) (fun k178_ => by refine Eq.trans ?_ (if_neg k178_).symm; exact (Decidable.em (i = 46 + 6 * (eA g0 233 1).toInt + 1)).elim (fun k186_ => by refine Eq.trans ?_ (if_pos k186_).symm; exact (Decidable.em (i = 1)).elim (fun k187_ => by refine (eA_eqT hI80.1 ka_233 k187_ (by first | decide | omega) (by first | decide | omega)).trans ?_; (first | (with_reducible rfl) | (omega) | (rfl))) (fun k187_ => by refine (eA_neT hI80.1 ka_233 k187_ (by first | decide | omega) (by omega)).trans ?_; exact (Decidable.em (i = (6 * v59.toInt + 51))).elim (fun k188_ => by refine (eA_eqT hI77.1 ka_233 k188_ (by first | decide | omega) (by first | decide | omega)).trans ?_; (first | (with_reducible rfl) | (omega) | (rfl))) (fun k188_ => by refine (eA_neT hI77.1 ka_233 k188_ (by first | decide | omega) (by omega)).trans ?_; exact (Decidable.em (i = (6 * v59.toInt + 50))).elim (fun k189_ => by refine (eA_eqT hI74.1 ka_233 k189_ (by first | decide | omega) (by first | decide | omega)).trans ?_; (first | (with_reducible rfl) | (omega) | (rfl))) (fun k189_ => by refine (eA_neT hI74.1 ka_233 k189_ (by first | decide | omega) (by omega)).trans ?_; exact (Decidable.em (i = (6 * v59.toInt + 49))).elim (fun k190_ => by refine (eA_eqT hI70.1 ka_233 k190_ (by first | decide | omega) (by first | decide | omega)).trans ?_; (first | (with_reducible rfl) | (omega) | (rfl))) (fun k190_ => by refine (eA_neT hI70.1 ka_233 k190_ (by first | decide | omega) (by omega)).trans ?_; exact (Decidable.em (i = (6 * v59.toInt + 48))).elim (fun k191_ => by refine (eA_eqT hI65.1 ka_233 k191_ (by first | decide | omega) (by first | decide | omega)).trans ?_; (first | (with_reducible rfl) | (omega) | (rfl))) (fun k191_ => by refine (eA_neT hI65.1 ka_233 k191_ (by first | decide | omega) (by omega)).trans ?_; exact (Decidable.em (i = (6 * v59.toInt + 47))).elim (fun k192_ => by refine (eA_eqT hI62.1 ka_233 k192_ (by first | decide | omega) (by first | decide | omega)).trans ?_; (first | (with_reducible rfl) | (omega) | (rfl))) (fun k192_ => by refine (eA_neT hI62.1 ka_233 k192_ (by first | decide | omega) (by omega)).trans ?_; exact (Decidable.em (i = (6 * v59.toInt + 46))).elim (fun k193_ => by refine (eA_eqT hI0.1 ka_233 k193_ (by first | decide | omega) (by first | decide | omega)).trans ?_; (first | (with_reducible rfl) | (omega) | (rfl))) (fun k193_ => by refine (eA_neT hI0.1 ka_233 k193_ (by first | decide | omega) (by omega)).trans ?_; (first | with_reducible rfl | omega | exact eA_ix (by omega) | rfl))))))))) (fun k186_ => by refine Eq.trans ?_ (if_neg k186_).symm; exact (Decidable.em (i = 46 + 6 * (eA g0 233 1).toInt + 2)).elim (fun k194_ => by refine Eq.trans ?_ (if_pos k194_).symm; exact (Decidable.em (i = 1)).elim (fun k195_ => by refine (eA_eqT hI80.1 ka_233 k195_ (by first | decide | omega) (by first | decide | omega)).trans ?_; (first | (with_reducible rfl) | (omega) | (rfl))) (fun k195_ => by refine (eA_neT hI80.1 ka_233 k195_ (by first | decide | omega) (by omega)).trans ?_; exact (Decidable.em (i = (6 * v59.toInt + 51))).elim (fun k196_ => by refine (eA_eqT hI77.1 ka_233 k196_ (by first | decide | omega) (by first | decide | omega)).trans ?_; (first | (with_reducible rfl) | (omega) | (rfl))) (fun k196_ => by refine (eA_neT hI77.1 ka_233 k196_ (by first | decide | omega) (by omega)).trans ?_; exact (Decidable.em (i = (6 * v59.toInt + 50))).elim (fun k197_ => by refine (eA_eqT hI74.1 ka_233 k197_ (by first | decide | omega) (by first | decide | omega)).trans ?_; (first | (with_reducible rfl) | (omega) | (rfl))) (fun k197_ => by refine (eA_neT hI74.1 ka_233 k197_ (by first | decide | omega) (by omega)).trans ?_; exact (Decidable.em (i = (6 * v59.toInt + 49))).elim (fun k198_ => by refine (eA_eqT hI70.1 ka_233 k198_ (by first | decide | omega) (by first | decide | omega)).trans ?_; (first | (with_reducible rfl) | (omega) | (rfl))) (fun k198_ => by refine (eA_neT hI70.1 ka_233 k198_ (by first | decide | omega) (by omega)).trans ?_; exact (Decidable.em (i = (6 * v59.toInt + 48))).elim (fun k199_ => by refine (eA_eqT hI65.1 ka_233 k199_ (by first | decide | omega) (by first | decide | omega)).trans ?_; (first | (with_reducible rfl) | (omega) | (rfl))) (fun k199_ => by refine (eA_neT hI65.1 ka_233 k199_ (by first | decide | omega) (by omega)).trans ?_; exact (Decidable.em (i = (6 * v59.toInt + 47))).elim (fun k200_ => by refine (eA_eqT hI62.1 ka_233 k200_ (by first | decide | omega) (by first | decide | omega)).trans ?_; (first | (with_reducible rfl) | (omega) | (rfl))) (fun k200_ => by refine (eA_neT hI62.1 ka_233 k200_ (by first | decide | omega) (by omega)).trans ?_; exact (Decidable.em (i = (6 * v59.toInt + 46))).elim (fun k201_ => by refine (eA_eqT hI0.1 ka_233 k201_ (by first | decide | omega) (by first | decide | omega)).trans ?_; (first | (with_reducible rfl) | (omega) | (rfl))) (fun k201_ => by refine (eA_neT hI0.1 ka_233 k201_ (by first | decide | omega) (by omega)).trans ?_; (first | with_reducible rfl | omega | exact eA_ix (by omega) | rfl))))))))) (fun k194_ => by refine Eq.trans ?_ (if_neg k194_).symm; exact (Decidable.em (i = 46 + 6 * (eA g0 233 1).toInt + 3)).elim (fun k202_ => by refine Eq.trans ?_ (if_pos k202_).symm; exact (Decidable.em (i = 1)).elim (fun k203_ => by refine (eA_eqT hI80.1 ka_233 k203_ (by first | decide | omega) (by first | decide | omega)).trans ?_; (first | (with_reducible rfl) | (omega) | (rfl))) (fun k203_ => by refine (eA_neT hI80.1 ka_233 k203_ (by first | decide | omega) (by omega)).trans ?_; exact (Decidable.em (i = (6 * v59.toInt + 51))).elim (fun k204_ => by refine (eA_eqT hI77.1 ka_233 k204_ (by first | decide | omega) (by first | decide | omega)).trans ?_; (first | (with_reducible rfl) | (omega) | (rfl))) (fun k204_ => by refine (eA_neT hI77.1 ka_233 k204_ (by first | decide | omega) (by omega)).trans ?_; exact (Decidable.em (i = (6 * v59.toInt + 50))).elim (fun k205_ => by refine (eA_eqT hI74.1 ka_233 k205_ (by first | decide | omega) (by first | decide | omega)).trans ?_; (first | (with_reducible rfl) | (omega) | (rfl))) (fun k205_ => by refine (eA_neT hI74.1 ka_233 k205_ (by first | decide | omega) (by omega)).trans ?_; exact (Decidable.em (i = (6 * v59.toInt + 49))).elim (fun k206_ => by refine (eA_eqT hI70.1 ka_233 k206_ (by first | decide | omega) (by first | decide | omega)).trans ?_; (first | (with_reducible rfl) | (omega) | (rfl))) (fun k206_ => by refine (eA_neT hI70.1 ka_233 k206_ (by first | decide | omega) (by omega)).trans ?_; exact (Decidable.em (i = (6 * v59.toInt + 48))).elim (fun k207_ => by refine (eA_eqT hI65.1 ka_233 k207_ (by first | decide | omega) (by first | decide | omega)).trans ?_; (first | (with_reducible rfl) | (omega) | (rfl))) (fun k207_ => by refine (eA_neT hI65.1 ka_233 k207_ (by first | decide | omega) (by omega)).trans ?_; exact (Decidable.em (i = (6 * v59.toInt + 47))).elim (fun k208_ => by refine (eA_eqT hI62.1 ka_233 k208_ (by first | decide | omega) (by first | decide | omega)).trans ?_; (first | (with_reducible rfl) | (omega) | (rfl))) (fun k208_ => by refine (eA_neT hI62.1 ka_233 k208_ (by first | decide | omega) (by omega)).trans ?_; exact (Decidable.em (i = (6 * v59.toInt + 46))).elim (fun k209_ => by refine (eA_eqT hI0.1 ka_233 k209_ (by first | decide | omega) (by first | decide | omega)).trans ?_; (first | (with_reducible rfl) | (omega) | (rfl))) (fun k209_ => by refine (eA_neT hI0.1 ka_233 k209_ (by first | decide | omega) (by omega)).trans ?_; (first | with_reducible rfl | omega | exact eA_ix (by omega) | rfl))))))))) (fun k202_ => by refine Eq.trans ?_ (if_neg k202_).symm; exact (Decidable.em (i = 46 + 6 * (eA g0 233 1).toInt + 4)).elim (fun k210_ => by refine Eq.trans ?_ (if_pos k210_).symm; exact (Decidable.em (i = 1)).elim (fun k211_ => by refine (eA_eqT hI80.1 ka_233 k211_ (by first | decide | omega) (by first | decide | omega)).trans ?_; (first | (with_reducible rfl) | (omega) | (rfl))) (fun k211_ => by refine (eA_neT hI80.1 ka_233 k211_ (by first | decide | omega) (by omega)).trans ?_; exact (Decidable.em (i = (6 * v59.toInt + 51))).elim (fun k212_ => by refine (eA_eqT hI77.1 ka_233 k212_ (by first | decide | omega) (by first | decide | omega)).trans ?_; (first | (with_reducible rfl) | (omega) | (rfl))) (fun k212_ => by refine (eA_neT hI77.1 ka_233 k212_ (by first | decide | omega) (by omega)).trans ?_; exact (Decidable.em (i = (6 * v59.toInt + 50))).elim (fun k213_ => by refine (eA_eqT hI74.1 ka_233 k213_ (by first | decide | omega) (by first | decide | omega)).trans ?_; (first | (with_reducible rfl) | (omega) | (rfl))) (fun k213_ => by refine (eA_neT hI74.1 ka_233 k213_ (by first | decide | omega) (by omega)).trans ?_; exact (Decidable.em (i = (6 * v59.toInt + 49))).elim (fun k214_ => by refine (eA_eqT hI70.1 ka_233 k214_ (by first | decide | omega) (by first | decide | omega)).trans ?_; (first | (with_reducible rfl) | (omega) | (rfl))) (fun k214_ => by refine (eA_neT hI70.1 ka_233 k214_ (by first | decide | omega) (by omega)).trans ?_; exact (Decidable.em (i = (6 * v59.toInt + 48))).elim (fun k215_ => by refine (eA_eqT hI65.1 ka_233 k215_ (by first | decide | omega) (by first | decide | omega)).trans ?_; (first | (with_reducible rfl) | (omega) | (rfl))) (fun k215_ => by refine (eA_neT hI65.1 ka_233 k215_ (by first | decide | omega) (by omega)).trans ?_; exact (Decidable.em (i = (6 * v59.toInt + 47))).elim (fun k216_ => by refine (eA_eqT hI62.1 ka_233 k216_ (by first | decide | omega) (by first | decide | omega)).trans ?_; (first | (with_reducible rfl) | (omega) | (rfl))) (fun k216_ => by refine (eA_neT hI62.1 ka_233 k216_ (by first | decide | omega) (by omega)).trans ?_; exact (Decidable.em (i = (6 * v59.toInt + 46))).elim (fun k217_ => by refine (eA_eqT hI0.1 ka_233 k217_ (by first | decide | omega) (by first | decide | omega)).trans ?_; (first | (with_reducible rfl) | (omega) | (rfl))) (fun k217_ => by refine (eA_neT hI0.1 ka_233 k217_ (by first | decide | omega) (by omega)).trans ?_; (first | with_reducible rfl | omega | exact eA_ix (by omega) | rfl))))))))) (fun k210_ => by refine Eq.trans ?_ (if_neg k210_).symm; exact (Decidable.em (i = 46 + 6 * (eA g0 233 1).toInt + 5)).elim (fun k218_ => by refine Eq.trans ?_ (if_pos k218_).symm; exact (Decidable.em (i = 1)).elim (fun k219_ => by refine (eA_eqT hI80.1 ka_233 k219_ (by first | decide | omega) (by first | decide | omega)).trans ?_; (first | (with_reducible rfl) | (omega) | (rfl))) (fun k219_ => by refine (eA_neT hI80.1 ka_233 k219_ (by first | decide | omega) (by omega)).trans ?_; exact (Decidable.em (i = (6 * v59.toInt + 51))).elim (fun k220_ => by refine (eA_eqT hI77.1 ka_233 k220_ (by first | decide | omega) (by first | decide | omega)).trans ?_; (first | (with_reducible rfl) | (omega) | (rfl))) (fun k220_ => by refine (eA_neT hI77.1 ka_233 k220_ (by first | decide | omega) (by omega)).trans ?_; exact (Decidable.em (i = (6 * v59.toInt + 50))).elim (fun k221_ => by refine (eA_eqT hI74.1 ka_233 k221_ (by first | decide | omega) (by first | decide | omega)).trans ?_; (first | (with_reducible rfl) | (omega) | (rfl))) (fun k221_ => by refine (eA_neT hI74.1 ka_233 k221_ (by first | decide | omega) (by omega)).trans ?_; exact (Decidable.em (i = (6 * v59.toInt + 49))).elim (fun k222_ => by refine (eA_eqT hI70.1 ka_233 k222_ (by first | decide | omega) (by first | decide | omega)).trans ?_; (first | (with_reducible rfl) | (omega) | (rfl))) (fun k222_ => by refine (eA_neT hI70.1 ka_233 k222_ (by first | decide | omega) (by omega)).trans ?_; exact (Decidable.em (i = (6 * v59.toInt + 48))).elim (fun k223_ => by refine (eA_eqT hI65.1 ka_233 k223_ (by first | decide | omega) (by first | decide | omega)).trans ?_; (first | (with_reducible rfl) | (omega) | (rfl))) (fun k223_ => by refine (eA_neT hI65.1 ka_233 k223_ (by first | decide | omega) (by omega)).trans ?_; exact (Decidable.em (i = (6 * v59.toInt + 47))).elim (fun k224_ => by refine (eA_eqT hI62.1 ka_233 k224_ (by first | decide | omega) (by first | decide | omega)).trans ?_; (first | (with_reducible rfl) | (omega) | (rfl))) (fun k224_ => by refine (eA_neT hI62.1 ka_233 k224_ (by first | decide | omega) (by omega)).trans ?_; exact (Decidable.em (i = (6 * v59.toInt + 46))).elim (fun k225_ => by refine (eA_eqT hI0.1 ka_233 k225_ (by first | decide | omega) (by first | decide | omega)).trans ?_; (first | (with_reducible rfl) | (omega) | (rfl))) (fun k225_ => by refine (eA_neT hI0.1 ka_233 k225_ (by first | decide | omega) (by omega)).trans ?_; (first | with_reducible rfl | omega | exact eA_ix (by omega) | rfl))))))))) (fun k218_ => by refine Eq.trans ?_ (if_neg k218_).symm; exact (Decidable.em (i = 1)).elim (fun k226_ => by refine (eA_eqT hI80.1 ka_233 k226_ (by first | decide | omega) (by first | decide | omega)).trans ?_; (first | (with_reducible rfl) | (omega) | (rfl))) (fun k226_ => by refine (eA_neT hI80.1 ka_233 k226_ (by first | decide | omega) (by omega)).trans ?_; exact (Decidable.em (i = (6 * v59.toInt + 51))).elim (fun k227_ => by refine (eA_eqT hI77.1 ka_233 k227_ (by first | decide | omega) (by first | decide | omega)).trans ?_; (first | (with_reducible rfl) | (omega) | (rfl))) (fun k227_ => by refine (eA_neT hI77.1 ka_233 k227_ (by first | decide | omega) (by omega)).trans ?_; exact (Decidable.em (i = (6 * v59.toInt + 50))).elim (fun k228_ => by refine (eA_eqT hI74.1 ka_233 k228_ (by first | decide | omega) (by first | decide | omega)).trans ?_; (first | (with_reducible rfl) | (omega) | (rfl))) (fun k228_ => by refine (eA_neT hI74.1 ka_233 k228_ (by first | decide | omega) (by omega)).trans ?_; exact (Decidable.em (i = (6 * v59.toInt + 49))).elim (fun k229_ => by refine (eA_eqT hI70.1 ka_233 k229_ (by first | decide | omega) (by first | decide | omega)).trans ?_; (first | (with_reducible rfl) | (omega) | (rfl))) (fun k229_ => by refine (eA_neT hI70.1 ka_233 k229_ (by first | decide | omega) (by omega)).trans ?_; exact (Decidable.em (i = (6 * v59.toInt + 48))).elim (fun k230_ => by refine (eA_eqT hI65.1 ka_233 k230_ (by first | decide | omega) (by first | decide | omega)).trans ?_; (first | (with_reducible rfl) | (omega) | (rfl))) (fun k230_ => by refine (eA_neT hI65.1 ka_233 k230_ (by first | decide | omega) (by omega)).trans ?_; exact (Decidable.em (i = (6 * v59.toInt + 47))).elim (fun k231_ => by refine (eA_eqT hI62.1 ka_233 k231_ (by first | decide | omega) (by first | decide | omega)).trans ?_; (first | (with_reducible rfl) | (omega) | (rfl))) (fun k231_ => by refine (eA_neT hI62.1 ka_233 k231_ (by first | decide | omega) (by omega)).trans ?_; exact (Decidable.em (i = (6 * v59.toInt + 46))).elim (fun k232_ => by refine (eA_eqT hI0.1 ka_233 k232_ (by first | decide | omega) (by first | decide | omega)).trans ?_; (first | (with_reducible rfl) | (omega) | (rfl))) (fun k232_ => by refine (eA_neT hI0.1 ka_233 k232_ (by first | decide | omega) (by omega)).trans ?_; (first | with_reducible rfl | omega | exact eA_ix (by omega) | rfl)))))))))))))))⟩⟩

def F_X11_load_231 : List (Nat × Nat) := [(231, 0), (231, 1)]
def A_X11_load_231 : List Nat := [232, 233]
set_option maxRecDepth 100000 in
set_option maxHeartbeats 4000000 in
theorem T_X11_load_231 (d : Nat) {N : Nat} {g0 : List en_E} (hI0 : HI g0) (a1 : Int32) (a2 : Int32) (a3 : Int32) (a4 : Int32) (a5 : Int32) (a6 : Int32) : Ev (d + 3) 178 [.ref 231, .int a1, .int a2, .int a3, .int a4, .int a5, .int a6] (g0, N) (fun w h' => ∃ g', h' = (g', N) ∧ HI g' ∧ Fr F_X11_load_231 A_X11_load_231 g0 g' ∧ ∃ r : Int32, w = some (.int r) ∧ ((-5) ≤ r.toInt ∧ r.toInt ≤ 7) ∧ ((((¬ (1 ≤ a1.toInt ∧ a1.toInt ≤ 9 ∧ 0 ≤ a4.toInt ∧ a4.toInt ≤ 99 ∧ 0 ≤ a5.toInt ∧ a5.toInt ≤ 9 ∧ 0 ≤ a6.toInt ∧ a6.toInt ≤ 9999) → r.toInt = -1 ∧ (eA g' 233 1).toInt = (eA g0 233 1).toInt) ∧ ((1 ≤ a1.toInt ∧ a1.toInt ≤ 9 ∧ 0 ≤ a4.toInt ∧ a4.toInt ≤ 99 ∧ 0 ≤ a5.toInt ∧ a5.toInt ≤ 9 ∧ 0 ≤ a6.toInt ∧ a6.toInt ≤ 9999) ∧ ¬ (0 ≤ a2.toInt ∧ a2.toInt < (eA g0 233 0).toInt ∧ 0 ≤ a3.toInt ∧ a3.toInt < (eA g0 233 0).toInt) → r.toInt = -2 ∧ (eA g' 233 1).toInt = (eA g0 233 1).toInt) ∧ ((1 ≤ a1.toInt ∧ a1.toInt ≤ 9 ∧ 0 ≤ a4.toInt ∧ a4.toInt ≤ 99 ∧ 0 ≤ a5.toInt ∧ a5.toInt ≤ 9 ∧ 0 ≤ a6.toInt ∧ a6.toInt ≤ 9999) ∧ (0 ≤ a2.toInt ∧ a2.toInt < (eA g0 233 0).toInt ∧ 0 ≤ a3.toInt ∧ a3.toInt < (eA g0 233 0).toInt) ∧ 8 ≤ (eA g0 233 1).toInt → r.toInt = -5 ∧ (eA g' 233 1).toInt = (eA g0 233 1).toInt) ∧ ((1 ≤ a1.toInt ∧ a1.toInt ≤ 9 ∧ 0 ≤ a4.toInt ∧ a4.toInt ≤ 99 ∧ 0 ≤ a5.toInt ∧ a5.toInt ≤ 9 ∧ 0 ≤ a6.toInt ∧ a6.toInt ≤ 9999) ∧ (0 ≤ a2.toInt ∧ a2.toInt < (eA g0 233 0).toInt ∧ 0 ≤ a3.toInt ∧ a3.toInt < (eA g0 233 0).toInt) ∧ (eA g0 233 1).toInt < 8 → r.toInt = (eA g0 233 1).toInt ∧ (eA g' 233 1).toInt = (eA g0 233 1).toInt + 1) ∧ (eA g' 233 0).toInt = (eA g0 233 0).toInt ∧ (eA g' 233 4).toInt = (eA g0 233 4).toInt ∧ (eA g' 233 5).toInt = (eA g0 233 5).toInt ∧ (eA g' 233 6).toInt = (eA g0 233 6).toInt ∧ (eA g' 233 2).toInt = (eA g0 233 2).toInt ∧ (eA g' 233 3).toInt = (eA g0 233 3).toInt) ∧ (∀ i : Int, 10 ≤ i → i < 46 → (eA g' 233 (i)).toInt = (eA g0 233 (i)).toInt) ∧ (∀ i : Int, 94 ≤ i → i < 110 → (eA g' 233 (i)).toInt = (eA g0 233 (i)).toInt) ∧ (∀ i : Int, 46 ≤ i → i < 94 → (eA g' 233 (i)).toInt = if ((1 ≤ a1.toInt ∧ a1.toInt ≤ 9 ∧ 0 ≤ a4.toInt ∧ a4.toInt ≤ 99 ∧ 0 ≤ a5.toInt ∧ a5.toInt ≤ 9 ∧ 0 ≤ a6.toInt ∧ a6.toInt ≤ 9999) ∧ (0 ≤ a2.toInt ∧ a2.toInt < (eA g0 233 0).toInt ∧ 0 ≤ a3.toInt ∧ a3.toInt < (eA g0 233 0).toInt) ∧ (eA g0 233 1).toInt < 8) ∧ i = 46 + 6 * (eA g0 233 1).toInt + 0 then a1.toInt else if ((1 ≤ a1.toInt ∧ a1.toInt ≤ 9 ∧ 0 ≤ a4.toInt ∧ a4.toInt ≤ 99 ∧ 0 ≤ a5.toInt ∧ a5.toInt ≤ 9 ∧ 0 ≤ a6.toInt ∧ a6.toInt ≤ 9999) ∧ (0 ≤ a2.toInt ∧ a2.toInt < (eA g0 233 0).toInt ∧ 0 ≤ a3.toInt ∧ a3.toInt < (eA g0 233 0).toInt) ∧ (eA g0 233 1).toInt < 8) ∧ i = 46 + 6 * (eA g0 233 1).toInt + 1 then a2.toInt else if ((1 ≤ a1.toInt ∧ a1.toInt ≤ 9 ∧ 0 ≤ a4.toInt ∧ a4.toInt ≤ 99 ∧ 0 ≤ a5.toInt ∧ a5.toInt ≤ 9 ∧ 0 ≤ a6.toInt ∧ a6.toInt ≤ 9999) ∧ (0 ≤ a2.toInt ∧ a2.toInt < (eA g0 233 0).toInt ∧ 0 ≤ a3.toInt ∧ a3.toInt < (eA g0 233 0).toInt) ∧ (eA g0 233 1).toInt < 8) ∧ i = 46 + 6 * (eA g0 233 1).toInt + 2 then a3.toInt else if ((1 ≤ a1.toInt ∧ a1.toInt ≤ 9 ∧ 0 ≤ a4.toInt ∧ a4.toInt ≤ 99 ∧ 0 ≤ a5.toInt ∧ a5.toInt ≤ 9 ∧ 0 ≤ a6.toInt ∧ a6.toInt ≤ 9999) ∧ (0 ≤ a2.toInt ∧ a2.toInt < (eA g0 233 0).toInt ∧ 0 ≤ a3.toInt ∧ a3.toInt < (eA g0 233 0).toInt) ∧ (eA g0 233 1).toInt < 8) ∧ i = 46 + 6 * (eA g0 233 1).toInt + 3 then a4.toInt else if ((1 ≤ a1.toInt ∧ a1.toInt ≤ 9 ∧ 0 ≤ a4.toInt ∧ a4.toInt ≤ 99 ∧ 0 ≤ a5.toInt ∧ a5.toInt ≤ 9 ∧ 0 ≤ a6.toInt ∧ a6.toInt ≤ 9999) ∧ (0 ≤ a2.toInt ∧ a2.toInt < (eA g0 233 0).toInt ∧ 0 ≤ a3.toInt ∧ a3.toInt < (eA g0 233 0).toInt) ∧ (eA g0 233 1).toInt < 8) ∧ i = 46 + 6 * (eA g0 233 1).toInt + 4 then a5.toInt else if ((1 ≤ a1.toInt ∧ a1.toInt ≤ 9 ∧ 0 ≤ a4.toInt ∧ a4.toInt ≤ 99 ∧ 0 ≤ a5.toInt ∧ a5.toInt ≤ 9 ∧ 0 ≤ a6.toInt ∧ a6.toInt ≤ 9999) ∧ (0 ≤ a2.toInt ∧ a2.toInt < (eA g0 233 0).toInt ∧ 0 ≤ a3.toInt ∧ a3.toInt < (eA g0 233 0).toInt) ∧ (eA g0 233 1).toInt < 8) ∧ i = 46 + 6 * (eA g0 233 1).toInt + 5 then a6.toInt else (eA g0 233 (i)).toInt)) ∧ SU r.toInt (gI g' 231 1).toInt)) := by
  have hF0 : Fr F_X11_load_231 A_X11_load_231 g0 g0 := Fr.rf
  refine Ev.mk rfl rfl ⟨Nat.le_of_ble_eq_true rfl, Or.inr (q_rc hI0.1 kx_231 rfl)⟩ ?_
  show At _ none _ _ (0, [(0, .ref 231), (1, .int a1), (2, .int a2), (3, .int a3), (4, .int a4), (5, .int a5), (6, .int a6)], [], (_, _)) _
  refine At.enter rfl ?_
  refine r_aload_n rfl ?_
  refine r_iconst 0 rfl ?_
  refine q_putI (Sh.int hI0.1 kx_231 rfl) rfl ?_
  have hI283 := HI.wI0 hI0 kx_231 rfl (p := 231) (b := 0) (v := 0) rfl
  have hF284 := Fr.wI (p := 231) (b := 0) (v := 0) hF0 rfl
  refine r_iload_n rfl ?_
  refine r_iload rfl ?_
  refine r_iload rfl ?_
  refine r_iload rfl ?_
  refine q_inlS 15 rfl [.int a1, .int a4, .int a5, .int a6] [] (Nat.le_of_ble_eq_true rfl) rfl ?_
  refine Ev.mk rfl rfl ⟨Nat.le_of_ble_eq_true rfl, Or.inl rfl⟩ ?_
  show At _ none _ _ (0, [(0, .int a1), (1, .int a4), (2, .int a5), (3, .int a6)], [], (_, _)) _
  refine At.enter rfl ?_
  refine r_iload_n rfl ?_
  refine q_i2l (fun v285 hv285 => ?_)
  refine r_lconst 1 rfl ?_
  refine r_ldc2 9 rfl ?_
  refine q_inlS 9 rfl [.long v285, .long 1, .long 9] [] (Nat.le_of_ble_eq_true rfl) rfl ?_
  refine Ev.mk rfl rfl ⟨Nat.le_of_ble_eq_true rfl, Or.inl rfl⟩ ?_
  show At _ none _ _ (0, [(0, .long v285), (2, .long 1), (4, .long 9)], [], (_, _)) _
  refine At.enter rfl ?_
  refine r_lload_n rfl ?_
  refine r_lload_n rfl ?_
  refine r_lcmp _ rfl ?_
  refine r_ifs 6 rfl (fun c286 => ?_) (fun c286 => ?_)
  · have c286_ : v285.toInt < 1 := en_j_lt_t c286
    refine At.enter rfl ?_
    refine r_iconst 0 rfl ?_
    refine Ar.fall 18 rfl ?_
    refine At.enter rfl ?_
    refine q_iretz (by decide) ?_
    refine At.enter rfl ?_
    refine r_ift (by decide) ?_
    refine At.enter rfl ?_
    refine r_iconst 0 rfl ?_
    refine Ar.fall 53 rfl ?_
    refine At.enter rfl ?_
    refine q_iretz (by decide) ?_
    refine At.enter rfl ?_
    refine r_iff 18 rfl (by decide) ?_
    refine At.enter rfl ?_
    refine r_aload_n rfl ?_
    refine r_iconst (-1) rfl ?_
    refine r_callV 23 rfl [.ref 231, .int (-1)] [] (Nat.le_of_ble_eq_true rfl) rfl (T_X11_tell_231 _ hI283 (-1) (by decide)) ?_
    rintro _ _ ⟨g287, rfl, hI288, hF289, v290, rfl, hr291⟩
    refine At.sti ?_
    have hF292 := Fr.tr hF284 hF289 rfl rfl
    have zv293 : ((-1) : Int32).toInt = (-1) := rfl
    refine At.enter rfl ?_
    refine r_ireti ?_
    obtain ⟨v294, hv294⟩ : ∃ v, eA g0 233 1 = v := ⟨_, rfl⟩
    have tv294 := congrArg Int32.toInt hv294
    have wv294 := HI.t1 hI0
    rw [hv294] at wv294
    have tv294 := congrArg Int32.toInt hv294
    have x295 := HI.eqA hI288 (p := 233) (j := 1) ((((eA_c (hF289.2.1 233 ma_X11_tell_231_233)).trans (eA_c gA_sI)).trans hv294))
    obtain ⟨v296, hv296⟩ : ∃ v, eA g0 233 0 = v := ⟨_, rfl⟩
    have tv296 := congrArg Int32.toInt hv296
    have wv296 := HI.t0 hI0
    rw [hv296] at wv296
    have tv296 := congrArg Int32.toInt hv296
    have x297 := HI.eqA hI288 (p := 233) (j := 0) ((((eA_c (hF289.2.1 233 ma_X11_tell_231_233)).trans (eA_c gA_sI)).trans hv296))
    obtain ⟨v298, hv298⟩ : ∃ v, eA g0 233 4 = v := ⟨_, rfl⟩
    have wv298 := HI.t4 hI0
    rw [hv298] at wv298
    have tv298 := congrArg Int32.toInt hv298
    have x299 := HI.eqA hI288 (p := 233) (j := 4) ((((eA_c (hF289.2.1 233 ma_X11_tell_231_233)).trans (eA_c gA_sI)).trans hv298))
    obtain ⟨v300, hv300⟩ : ∃ v, eA g0 233 5 = v := ⟨_, rfl⟩
    have wv300 := HI.t5 hI0
    rw [hv300] at wv300
    have tv300 := congrArg Int32.toInt hv300
    have x301 := HI.eqA hI288 (p := 233) (j := 5) ((((eA_c (hF289.2.1 233 ma_X11_tell_231_233)).trans (eA_c gA_sI)).trans hv300))
    obtain ⟨v302, hv302⟩ : ∃ v, eA g0 233 6 = v := ⟨_, rfl⟩
    have wv302 := HI.t6 hI0
    rw [hv302] at wv302
    have tv302 := congrArg Int32.toInt hv302
    have x303 := HI.eqA hI288 (p := 233) (j := 6) ((((eA_c (hF289.2.1 233 ma_X11_tell_231_233)).trans (eA_c gA_sI)).trans hv302))
    obtain ⟨v304, hv304⟩ : ∃ v, eA g0 233 2 = v := ⟨_, rfl⟩
    have tv304 := congrArg Int32.toInt hv304
    have wv304 := HI.t2 hI0
    rw [hv304] at wv304
    have tv304 := congrArg Int32.toInt hv304
    have x305 := HI.eqA hI288 (p := 233) (j := 2) ((((eA_c (hF289.2.1 233 ma_X11_tell_231_233)).trans (eA_c gA_sI)).trans hv304))
    obtain ⟨v306, hv306⟩ : ∃ v, eA g0 233 3 = v := ⟨_, rfl⟩
    have wv306 := HI.t3 hI0
    rw [hv306] at wv306
    have tv306 := congrArg Int32.toInt hv306
    have x307 := HI.eqA hI288 (p := 233) (j := 3) ((((eA_c (hF289.2.1 233 ma_X11_tell_231_233)).trans (eA_c gA_sI)).trans hv306))
    have x308 := HI.eqA hI0 (p := 233) (j := 1) (hv294)
    have x309 := HI.eqA hI0 (p := 233) (j := 0) (hv296)
    have x310 := HI.eqA hI0 (p := 233) (j := 0) (hv296)
    have x311 := HI.eqA hI0 (p := 233) (j := 4) (hv298)
    have x312 := HI.eqA hI0 (p := 233) (j := 5) (hv300)
    have x313 := HI.eqA hI0 (p := 233) (j := 6) (hv302)
    have x314 := HI.eqA hI0 (p := 233) (j := 2) (hv304)
    have x315 := HI.eqA hI0 (p := 233) (j := 3) (hv306)
    obtain ⟨v316, hv316⟩ : ∃ v, gI g287 231 1 = v := ⟨_, rfl⟩
    have tv316 := congrArg Int32.toInt hv316
    exact ⟨_, rfl, hI288, hF292, _, rfl, by omega, ⟨⟨⟨by omega, by omega, by omega, by omega, by omega, by omega, by omega, by omega, by omega, by omega⟩, (by intro i i0 i1; refine (eA_ti (((hF289.2.1 233 ma_X11_tell_231_233).trans (gA_sI)))).trans ?_; (first | with_reducible rfl | omega | exact eA_ix (by omega) | rfl)), (by intro i i0 i1; refine (eA_ti (((hF289.2.1 233 ma_X11_tell_231_233).trans (gA_sI)))).trans ?_; (first | with_reducible rfl | omega | exact eA_ix (by omega) | rfl)), (by have kn : ¬ ((1 ≤ a1.toInt ∧ a1.toInt ≤ 9 ∧ 0 ≤ a4.toInt ∧ a4.toInt ≤ 99 ∧ 0 ≤ a5.toInt ∧ a5.toInt ≤ 9 ∧ 0 ≤ a6.toInt ∧ a6.toInt ≤ 9999) ∧ (0 ≤ a2.toInt ∧ a2.toInt < (eA g0 233 0).toInt ∧ 0 ≤ a3.toInt ∧ a3.toInt < (eA g0 233 0).toInt) ∧ (eA g0 233 1).toInt < 8) := (by omega); intro i i0 i1; refine Eq.trans ?_ (if_neg (show ¬ (((1 ≤ a1.toInt ∧ a1.toInt ≤ 9 ∧ 0 ≤ a4.toInt ∧ a4.toInt ≤ 99 ∧ 0 ≤ a5.toInt ∧ a5.toInt ≤ 9 ∧ 0 ≤ a6.toInt ∧ a6.toInt ≤ 9999) ∧ (0 ≤ a2.toInt ∧ a2.toInt < (eA g0 233 0).toInt ∧ 0 ≤ a3.toInt ∧ a3.toInt < (eA g0 233 0).toInt) ∧ (eA g0 233 1).toInt < 8) ∧ i = 46 + 6 * (eA g0 233 1).toInt + 0) from fun z => kn z.1)).symm; refine Eq.trans ?_ (if_neg (show ¬ (((1 ≤ a1.toInt ∧ a1.toInt ≤ 9 ∧ 0 ≤ a4.toInt ∧ a4.toInt ≤ 99 ∧ 0 ≤ a5.toInt ∧ a5.toInt ≤ 9 ∧ 0 ≤ a6.toInt ∧ a6.toInt ≤ 9999) ∧ (0 ≤ a2.toInt ∧ a2.toInt < (eA g0 233 0).toInt ∧ 0 ≤ a3.toInt ∧ a3.toInt < (eA g0 233 0).toInt) ∧ (eA g0 233 1).toInt < 8) ∧ i = 46 + 6 * (eA g0 233 1).toInt + 1) from fun z => kn z.1)).symm; refine Eq.trans ?_ (if_neg (show ¬ (((1 ≤ a1.toInt ∧ a1.toInt ≤ 9 ∧ 0 ≤ a4.toInt ∧ a4.toInt ≤ 99 ∧ 0 ≤ a5.toInt ∧ a5.toInt ≤ 9 ∧ 0 ≤ a6.toInt ∧ a6.toInt ≤ 9999) ∧ (0 ≤ a2.toInt ∧ a2.toInt < (eA g0 233 0).toInt ∧ 0 ≤ a3.toInt ∧ a3.toInt < (eA g0 233 0).toInt) ∧ (eA g0 233 1).toInt < 8) ∧ i = 46 + 6 * (eA g0 233 1).toInt + 2) from fun z => kn z.1)).symm; refine Eq.trans ?_ (if_neg (show ¬ (((1 ≤ a1.toInt ∧ a1.toInt ≤ 9 ∧ 0 ≤ a4.toInt ∧ a4.toInt ≤ 99 ∧ 0 ≤ a5.toInt ∧ a5.toInt ≤ 9 ∧ 0 ≤ a6.toInt ∧ a6.toInt ≤ 9999) ∧ (0 ≤ a2.toInt ∧ a2.toInt < (eA g0 233 0).toInt ∧ 0 ≤ a3.toInt ∧ a3.toInt < (eA g0 233 0).toInt) ∧ (eA g0 233 1).toInt < 8) ∧ i = 46 + 6 * (eA g0 233 1).toInt + 3) from fun z => kn z.1)).symm; refine Eq.trans ?_ (if_neg (show ¬ (((1 ≤ a1.toInt ∧ a1.toInt ≤ 9 ∧ 0 ≤ a4.toInt ∧ a4.toInt ≤ 99 ∧ 0 ≤ a5.toInt ∧ a5.toInt ≤ 9 ∧ 0 ≤ a6.toInt ∧ a6.toInt ≤ 9999) ∧ (0 ≤ a2.toInt ∧ a2.toInt < (eA g0 233 0).toInt ∧ 0 ≤ a3.toInt ∧ a3.toInt < (eA g0 233 0).toInt) ∧ (eA g0 233 1).toInt < 8) ∧ i = 46 + 6 * (eA g0 233 1).toInt + 4) from fun z => kn z.1)).symm; refine Eq.trans ?_ (if_neg (show ¬ (((1 ≤ a1.toInt ∧ a1.toInt ≤ 9 ∧ 0 ≤ a4.toInt ∧ a4.toInt ≤ 99 ∧ 0 ≤ a5.toInt ∧ a5.toInt ≤ 9 ∧ 0 ≤ a6.toInt ∧ a6.toInt ≤ 9999) ∧ (0 ≤ a2.toInt ∧ a2.toInt < (eA g0 233 0).toInt ∧ 0 ≤ a3.toInt ∧ a3.toInt < (eA g0 233 0).toInt) ∧ (eA g0 233 1).toInt < 8) ∧ i = 46 + 6 * (eA g0 233 1).toInt + 5) from fun z => kn z.1)).symm; refine (eA_ti (((hF289.2.1 233 ma_X11_tell_231_233).trans (gA_sI)))).trans ?_; (first | with_reducible rfl | omega | exact eA_ix (by omega) | rfl))⟩, (SU.mk (by omega))⟩⟩
  · have c286_ : v285.toInt ≥ 1 := en_j_lt_f c286
    refine At.enter rfl ?_
    refine r_lload_n rfl ?_
    refine r_lload rfl ?_
    refine r_lcmp _ rfl ?_
    refine r_ifs 13 rfl (fun c318 => ?_) (fun c318 => ?_)
    · have c318_ : v285.toInt > 9 := en_j_gt_t c318
      refine At.enter rfl ?_
      refine r_iconst 0 rfl ?_
      refine Ar.fall 18 rfl ?_
      refine At.enter rfl ?_
      refine q_iretz (by decide) ?_
      refine At.enter rfl ?_
      refine r_ift (by decide) ?_
      refine At.enter rfl ?_
      refine r_iconst 0 rfl ?_
      refine Ar.fall 53 rfl ?_
      refine At.enter rfl ?_
      refine q_iretz (by decide) ?_
      refine At.enter rfl ?_
      refine r_iff 18 rfl (by decide) ?_
      refine At.enter rfl ?_
      refine r_aload_n rfl ?_
      refine r_iconst (-1) rfl ?_
      refine r_callV 23 rfl [.ref 231, .int (-1)] [] (Nat.le_of_ble_eq_true rfl) rfl (T_X11_tell_231 _ hI283 (-1) (by decide)) ?_
      rintro _ _ ⟨g319, rfl, hI320, hF321, v322, rfl, hr323⟩
      refine At.sti ?_
      have hF324 := Fr.tr hF284 hF321 rfl rfl
      have zv325 : ((-1) : Int32).toInt = (-1) := rfl
      refine At.enter rfl ?_
      refine r_ireti ?_
      obtain ⟨v326, hv326⟩ : ∃ v, eA g0 233 1 = v := ⟨_, rfl⟩
      have tv326 := congrArg Int32.toInt hv326
      have wv326 := HI.t1 hI0
      rw [hv326] at wv326
      have tv326 := congrArg Int32.toInt hv326
      have x327 := HI.eqA hI320 (p := 233) (j := 1) ((((eA_c (hF321.2.1 233 ma_X11_tell_231_233)).trans (eA_c gA_sI)).trans hv326))
      obtain ⟨v328, hv328⟩ : ∃ v, eA g0 233 0 = v := ⟨_, rfl⟩
      have tv328 := congrArg Int32.toInt hv328
      have wv328 := HI.t0 hI0
      rw [hv328] at wv328
      have tv328 := congrArg Int32.toInt hv328
      have x329 := HI.eqA hI320 (p := 233) (j := 0) ((((eA_c (hF321.2.1 233 ma_X11_tell_231_233)).trans (eA_c gA_sI)).trans hv328))
      obtain ⟨v330, hv330⟩ : ∃ v, eA g0 233 4 = v := ⟨_, rfl⟩
      have wv330 := HI.t4 hI0
      rw [hv330] at wv330
      have tv330 := congrArg Int32.toInt hv330
      have x331 := HI.eqA hI320 (p := 233) (j := 4) ((((eA_c (hF321.2.1 233 ma_X11_tell_231_233)).trans (eA_c gA_sI)).trans hv330))
      obtain ⟨v332, hv332⟩ : ∃ v, eA g0 233 5 = v := ⟨_, rfl⟩
      have wv332 := HI.t5 hI0
      rw [hv332] at wv332
      have tv332 := congrArg Int32.toInt hv332
      have x333 := HI.eqA hI320 (p := 233) (j := 5) ((((eA_c (hF321.2.1 233 ma_X11_tell_231_233)).trans (eA_c gA_sI)).trans hv332))
      obtain ⟨v334, hv334⟩ : ∃ v, eA g0 233 6 = v := ⟨_, rfl⟩
      have wv334 := HI.t6 hI0
      rw [hv334] at wv334
      have tv334 := congrArg Int32.toInt hv334
      have x335 := HI.eqA hI320 (p := 233) (j := 6) ((((eA_c (hF321.2.1 233 ma_X11_tell_231_233)).trans (eA_c gA_sI)).trans hv334))
      obtain ⟨v336, hv336⟩ : ∃ v, eA g0 233 2 = v := ⟨_, rfl⟩
      have tv336 := congrArg Int32.toInt hv336
      have wv336 := HI.t2 hI0
      rw [hv336] at wv336
      have tv336 := congrArg Int32.toInt hv336
      have x337 := HI.eqA hI320 (p := 233) (j := 2) ((((eA_c (hF321.2.1 233 ma_X11_tell_231_233)).trans (eA_c gA_sI)).trans hv336))
      obtain ⟨v338, hv338⟩ : ∃ v, eA g0 233 3 = v := ⟨_, rfl⟩
      have wv338 := HI.t3 hI0
      rw [hv338] at wv338
      have tv338 := congrArg Int32.toInt hv338
      have x339 := HI.eqA hI320 (p := 233) (j := 3) ((((eA_c (hF321.2.1 233 ma_X11_tell_231_233)).trans (eA_c gA_sI)).trans hv338))
      have x340 := HI.eqA hI0 (p := 233) (j := 1) (hv326)
      have x341 := HI.eqA hI0 (p := 233) (j := 0) (hv328)
      have x342 := HI.eqA hI0 (p := 233) (j := 0) (hv328)
      have x343 := HI.eqA hI0 (p := 233) (j := 4) (hv330)
      have x344 := HI.eqA hI0 (p := 233) (j := 5) (hv332)
      have x345 := HI.eqA hI0 (p := 233) (j := 6) (hv334)
      have x346 := HI.eqA hI0 (p := 233) (j := 2) (hv336)
      have x347 := HI.eqA hI0 (p := 233) (j := 3) (hv338)
      obtain ⟨v348, hv348⟩ : ∃ v, gI g319 231 1 = v := ⟨_, rfl⟩
      have tv348 := congrArg Int32.toInt hv348
      exact ⟨_, rfl, hI320, hF324, _, rfl, by omega, ⟨⟨⟨by omega, by omega, by omega, by omega, by omega, by omega, by omega, by omega, by omega, by omega⟩, (by intro i i0 i1; refine (eA_ti (((hF321.2.1 233 ma_X11_tell_231_233).trans (gA_sI)))).trans ?_; (first | with_reducible rfl | omega | exact eA_ix (by omega) | rfl)), (by intro i i0 i1; refine (eA_ti (((hF321.2.1 233 ma_X11_tell_231_233).trans (gA_sI)))).trans ?_; (first | with_reducible rfl | omega | exact eA_ix (by omega) | rfl)), (by have kn : ¬ ((1 ≤ a1.toInt ∧ a1.toInt ≤ 9 ∧ 0 ≤ a4.toInt ∧ a4.toInt ≤ 99 ∧ 0 ≤ a5.toInt ∧ a5.toInt ≤ 9 ∧ 0 ≤ a6.toInt ∧ a6.toInt ≤ 9999) ∧ (0 ≤ a2.toInt ∧ a2.toInt < (eA g0 233 0).toInt ∧ 0 ≤ a3.toInt ∧ a3.toInt < (eA g0 233 0).toInt) ∧ (eA g0 233 1).toInt < 8) := (by omega); intro i i0 i1; refine Eq.trans ?_ (if_neg (show ¬ (((1 ≤ a1.toInt ∧ a1.toInt ≤ 9 ∧ 0 ≤ a4.toInt ∧ a4.toInt ≤ 99 ∧ 0 ≤ a5.toInt ∧ a5.toInt ≤ 9 ∧ 0 ≤ a6.toInt ∧ a6.toInt ≤ 9999) ∧ (0 ≤ a2.toInt ∧ a2.toInt < (eA g0 233 0).toInt ∧ 0 ≤ a3.toInt ∧ a3.toInt < (eA g0 233 0).toInt) ∧ (eA g0 233 1).toInt < 8) ∧ i = 46 + 6 * (eA g0 233 1).toInt + 0) from fun z => kn z.1)).symm; refine Eq.trans ?_ (if_neg (show ¬ (((1 ≤ a1.toInt ∧ a1.toInt ≤ 9 ∧ 0 ≤ a4.toInt ∧ a4.toInt ≤ 99 ∧ 0 ≤ a5.toInt ∧ a5.toInt ≤ 9 ∧ 0 ≤ a6.toInt ∧ a6.toInt ≤ 9999) ∧ (0 ≤ a2.toInt ∧ a2.toInt < (eA g0 233 0).toInt ∧ 0 ≤ a3.toInt ∧ a3.toInt < (eA g0 233 0).toInt) ∧ (eA g0 233 1).toInt < 8) ∧ i = 46 + 6 * (eA g0 233 1).toInt + 1) from fun z => kn z.1)).symm; refine Eq.trans ?_ (if_neg (show ¬ (((1 ≤ a1.toInt ∧ a1.toInt ≤ 9 ∧ 0 ≤ a4.toInt ∧ a4.toInt ≤ 99 ∧ 0 ≤ a5.toInt ∧ a5.toInt ≤ 9 ∧ 0 ≤ a6.toInt ∧ a6.toInt ≤ 9999) ∧ (0 ≤ a2.toInt ∧ a2.toInt < (eA g0 233 0).toInt ∧ 0 ≤ a3.toInt ∧ a3.toInt < (eA g0 233 0).toInt) ∧ (eA g0 233 1).toInt < 8) ∧ i = 46 + 6 * (eA g0 233 1).toInt + 2) from fun z => kn z.1)).symm; refine Eq.trans ?_ (if_neg (show ¬ (((1 ≤ a1.toInt ∧ a1.toInt ≤ 9 ∧ 0 ≤ a4.toInt ∧ a4.toInt ≤ 99 ∧ 0 ≤ a5.toInt ∧ a5.toInt ≤ 9 ∧ 0 ≤ a6.toInt ∧ a6.toInt ≤ 9999) ∧ (0 ≤ a2.toInt ∧ a2.toInt < (eA g0 233 0).toInt ∧ 0 ≤ a3.toInt ∧ a3.toInt < (eA g0 233 0).toInt) ∧ (eA g0 233 1).toInt < 8) ∧ i = 46 + 6 * (eA g0 233 1).toInt + 3) from fun z => kn z.1)).symm; refine Eq.trans ?_ (if_neg (show ¬ (((1 ≤ a1.toInt ∧ a1.toInt ≤ 9 ∧ 0 ≤ a4.toInt ∧ a4.toInt ≤ 99 ∧ 0 ≤ a5.toInt ∧ a5.toInt ≤ 9 ∧ 0 ≤ a6.toInt ∧ a6.toInt ≤ 9999) ∧ (0 ≤ a2.toInt ∧ a2.toInt < (eA g0 233 0).toInt ∧ 0 ≤ a3.toInt ∧ a3.toInt < (eA g0 233 0).toInt) ∧ (eA g0 233 1).toInt < 8) ∧ i = 46 + 6 * (eA g0 233 1).toInt + 4) from fun z => kn z.1)).symm; refine Eq.trans ?_ (if_neg (show ¬ (((1 ≤ a1.toInt ∧ a1.toInt ≤ 9 ∧ 0 ≤ a4.toInt ∧ a4.toInt ≤ 99 ∧ 0 ≤ a5.toInt ∧ a5.toInt ≤ 9 ∧ 0 ≤ a6.toInt ∧ a6.toInt ≤ 9999) ∧ (0 ≤ a2.toInt ∧ a2.toInt < (eA g0 233 0).toInt ∧ 0 ≤ a3.toInt ∧ a3.toInt < (eA g0 233 0).toInt) ∧ (eA g0 233 1).toInt < 8) ∧ i = 46 + 6 * (eA g0 233 1).toInt + 5) from fun z => kn z.1)).symm; refine (eA_ti (((hF321.2.1 233 ma_X11_tell_231_233).trans (gA_sI)))).trans ?_; (first | with_reducible rfl | omega | exact eA_ix (by omega) | rfl))⟩, (SU.mk (by omega))⟩⟩
    · have c318_ : v285.toInt ≤ 9 := en_j_gt_f c318
      refine At.enter rfl ?_
      refine r_iconst 1 rfl ?_
      refine r_goto ?_
      refine At.enter rfl ?_
      refine q_iretz (by decide) ?_
      refine At.enter rfl ?_
      refine r_iff 12 rfl (by decide) ?_
      refine At.enter rfl ?_
      refine r_iload_n rfl ?_
      refine q_i2l (fun v350 hv350 => ?_)
      refine r_lconst 0 rfl ?_
      refine r_ldc2 99 rfl ?_
      refine q_inlS 21 rfl [.long v350, .long 0, .long 99] [] (Nat.le_of_ble_eq_true rfl) rfl ?_
      refine Ev.mk rfl rfl ⟨Nat.le_of_ble_eq_true rfl, Or.inl rfl⟩ ?_
      show At _ none _ _ (0, [(0, .long v350), (2, .long 0), (4, .long 99)], [], (_, _)) _
      refine At.enter rfl ?_
      refine r_lload_n rfl ?_
      refine r_lload_n rfl ?_
      refine r_lcmp _ rfl ?_
      refine r_ifs 6 rfl (fun c351 => ?_) (fun c351 => ?_)
      · have c351_ : v350.toInt < 0 := en_j_lt_t c351
        refine At.enter rfl ?_
        refine r_iconst 0 rfl ?_
        refine Ar.fall 18 rfl ?_
        refine At.enter rfl ?_
        refine q_iretz (by decide) ?_
        refine At.enter rfl ?_
        refine r_ift (by decide) ?_
        refine At.enter rfl ?_
        refine r_iconst 0 rfl ?_
        refine Ar.fall 53 rfl ?_
        refine At.enter rfl ?_
        refine q_iretz (by decide) ?_
        refine At.enter rfl ?_
        refine r_iff 18 rfl (by decide) ?_
        refine At.enter rfl ?_
        refine r_aload_n rfl ?_
        refine r_iconst (-1) rfl ?_
        refine r_callV 23 rfl [.ref 231, .int (-1)] [] (Nat.le_of_ble_eq_true rfl) rfl (T_X11_tell_231 _ hI283 (-1) (by decide)) ?_
        rintro _ _ ⟨g352, rfl, hI353, hF354, v355, rfl, hr356⟩
        refine At.sti ?_
        have hF357 := Fr.tr hF284 hF354 rfl rfl
        have zv358 : ((-1) : Int32).toInt = (-1) := rfl
        refine At.enter rfl ?_
        refine r_ireti ?_
        obtain ⟨v359, hv359⟩ : ∃ v, eA g0 233 1 = v := ⟨_, rfl⟩
        have tv359 := congrArg Int32.toInt hv359
        have wv359 := HI.t1 hI0
        rw [hv359] at wv359
        have tv359 := congrArg Int32.toInt hv359
        have x360 := HI.eqA hI353 (p := 233) (j := 1) ((((eA_c (hF354.2.1 233 ma_X11_tell_231_233)).trans (eA_c gA_sI)).trans hv359))
        obtain ⟨v361, hv361⟩ : ∃ v, eA g0 233 0 = v := ⟨_, rfl⟩
        have tv361 := congrArg Int32.toInt hv361
        have wv361 := HI.t0 hI0
        rw [hv361] at wv361
        have tv361 := congrArg Int32.toInt hv361
        have x362 := HI.eqA hI353 (p := 233) (j := 0) ((((eA_c (hF354.2.1 233 ma_X11_tell_231_233)).trans (eA_c gA_sI)).trans hv361))
        obtain ⟨v363, hv363⟩ : ∃ v, eA g0 233 4 = v := ⟨_, rfl⟩
        have wv363 := HI.t4 hI0
        rw [hv363] at wv363
        have tv363 := congrArg Int32.toInt hv363
        have x364 := HI.eqA hI353 (p := 233) (j := 4) ((((eA_c (hF354.2.1 233 ma_X11_tell_231_233)).trans (eA_c gA_sI)).trans hv363))
        obtain ⟨v365, hv365⟩ : ∃ v, eA g0 233 5 = v := ⟨_, rfl⟩
        have wv365 := HI.t5 hI0
        rw [hv365] at wv365
        have tv365 := congrArg Int32.toInt hv365
        have x366 := HI.eqA hI353 (p := 233) (j := 5) ((((eA_c (hF354.2.1 233 ma_X11_tell_231_233)).trans (eA_c gA_sI)).trans hv365))
        obtain ⟨v367, hv367⟩ : ∃ v, eA g0 233 6 = v := ⟨_, rfl⟩
        have wv367 := HI.t6 hI0
        rw [hv367] at wv367
        have tv367 := congrArg Int32.toInt hv367
        have x368 := HI.eqA hI353 (p := 233) (j := 6) ((((eA_c (hF354.2.1 233 ma_X11_tell_231_233)).trans (eA_c gA_sI)).trans hv367))
        obtain ⟨v369, hv369⟩ : ∃ v, eA g0 233 2 = v := ⟨_, rfl⟩
        have tv369 := congrArg Int32.toInt hv369
        have wv369 := HI.t2 hI0
        rw [hv369] at wv369
        have tv369 := congrArg Int32.toInt hv369
        have x370 := HI.eqA hI353 (p := 233) (j := 2) ((((eA_c (hF354.2.1 233 ma_X11_tell_231_233)).trans (eA_c gA_sI)).trans hv369))
        obtain ⟨v371, hv371⟩ : ∃ v, eA g0 233 3 = v := ⟨_, rfl⟩
        have wv371 := HI.t3 hI0
        rw [hv371] at wv371
        have tv371 := congrArg Int32.toInt hv371
        have x372 := HI.eqA hI353 (p := 233) (j := 3) ((((eA_c (hF354.2.1 233 ma_X11_tell_231_233)).trans (eA_c gA_sI)).trans hv371))
        have x373 := HI.eqA hI0 (p := 233) (j := 1) (hv359)
        have x374 := HI.eqA hI0 (p := 233) (j := 0) (hv361)
        have x375 := HI.eqA hI0 (p := 233) (j := 0) (hv361)
        have x376 := HI.eqA hI0 (p := 233) (j := 4) (hv363)
        have x377 := HI.eqA hI0 (p := 233) (j := 5) (hv365)
        have x378 := HI.eqA hI0 (p := 233) (j := 6) (hv367)
        have x379 := HI.eqA hI0 (p := 233) (j := 2) (hv369)
        have x380 := HI.eqA hI0 (p := 233) (j := 3) (hv371)
        obtain ⟨v381, hv381⟩ : ∃ v, gI g352 231 1 = v := ⟨_, rfl⟩
        have tv381 := congrArg Int32.toInt hv381
        exact ⟨_, rfl, hI353, hF357, _, rfl, by omega, ⟨⟨⟨by omega, by omega, by omega, by omega, by omega, by omega, by omega, by omega, by omega, by omega⟩, (by intro i i0 i1; refine (eA_ti (((hF354.2.1 233 ma_X11_tell_231_233).trans (gA_sI)))).trans ?_; (first | with_reducible rfl | omega | exact eA_ix (by omega) | rfl)), (by intro i i0 i1; refine (eA_ti (((hF354.2.1 233 ma_X11_tell_231_233).trans (gA_sI)))).trans ?_; (first | with_reducible rfl | omega | exact eA_ix (by omega) | rfl)), (by have kn : ¬ ((1 ≤ a1.toInt ∧ a1.toInt ≤ 9 ∧ 0 ≤ a4.toInt ∧ a4.toInt ≤ 99 ∧ 0 ≤ a5.toInt ∧ a5.toInt ≤ 9 ∧ 0 ≤ a6.toInt ∧ a6.toInt ≤ 9999) ∧ (0 ≤ a2.toInt ∧ a2.toInt < (eA g0 233 0).toInt ∧ 0 ≤ a3.toInt ∧ a3.toInt < (eA g0 233 0).toInt) ∧ (eA g0 233 1).toInt < 8) := (by omega); intro i i0 i1; refine Eq.trans ?_ (if_neg (show ¬ (((1 ≤ a1.toInt ∧ a1.toInt ≤ 9 ∧ 0 ≤ a4.toInt ∧ a4.toInt ≤ 99 ∧ 0 ≤ a5.toInt ∧ a5.toInt ≤ 9 ∧ 0 ≤ a6.toInt ∧ a6.toInt ≤ 9999) ∧ (0 ≤ a2.toInt ∧ a2.toInt < (eA g0 233 0).toInt ∧ 0 ≤ a3.toInt ∧ a3.toInt < (eA g0 233 0).toInt) ∧ (eA g0 233 1).toInt < 8) ∧ i = 46 + 6 * (eA g0 233 1).toInt + 0) from fun z => kn z.1)).symm; refine Eq.trans ?_ (if_neg (show ¬ (((1 ≤ a1.toInt ∧ a1.toInt ≤ 9 ∧ 0 ≤ a4.toInt ∧ a4.toInt ≤ 99 ∧ 0 ≤ a5.toInt ∧ a5.toInt ≤ 9 ∧ 0 ≤ a6.toInt ∧ a6.toInt ≤ 9999) ∧ (0 ≤ a2.toInt ∧ a2.toInt < (eA g0 233 0).toInt ∧ 0 ≤ a3.toInt ∧ a3.toInt < (eA g0 233 0).toInt) ∧ (eA g0 233 1).toInt < 8) ∧ i = 46 + 6 * (eA g0 233 1).toInt + 1) from fun z => kn z.1)).symm; refine Eq.trans ?_ (if_neg (show ¬ (((1 ≤ a1.toInt ∧ a1.toInt ≤ 9 ∧ 0 ≤ a4.toInt ∧ a4.toInt ≤ 99 ∧ 0 ≤ a5.toInt ∧ a5.toInt ≤ 9 ∧ 0 ≤ a6.toInt ∧ a6.toInt ≤ 9999) ∧ (0 ≤ a2.toInt ∧ a2.toInt < (eA g0 233 0).toInt ∧ 0 ≤ a3.toInt ∧ a3.toInt < (eA g0 233 0).toInt) ∧ (eA g0 233 1).toInt < 8) ∧ i = 46 + 6 * (eA g0 233 1).toInt + 2) from fun z => kn z.1)).symm; refine Eq.trans ?_ (if_neg (show ¬ (((1 ≤ a1.toInt ∧ a1.toInt ≤ 9 ∧ 0 ≤ a4.toInt ∧ a4.toInt ≤ 99 ∧ 0 ≤ a5.toInt ∧ a5.toInt ≤ 9 ∧ 0 ≤ a6.toInt ∧ a6.toInt ≤ 9999) ∧ (0 ≤ a2.toInt ∧ a2.toInt < (eA g0 233 0).toInt ∧ 0 ≤ a3.toInt ∧ a3.toInt < (eA g0 233 0).toInt) ∧ (eA g0 233 1).toInt < 8) ∧ i = 46 + 6 * (eA g0 233 1).toInt + 3) from fun z => kn z.1)).symm; refine Eq.trans ?_ (if_neg (show ¬ (((1 ≤ a1.toInt ∧ a1.toInt ≤ 9 ∧ 0 ≤ a4.toInt ∧ a4.toInt ≤ 99 ∧ 0 ≤ a5.toInt ∧ a5.toInt ≤ 9 ∧ 0 ≤ a6.toInt ∧ a6.toInt ≤ 9999) ∧ (0 ≤ a2.toInt ∧ a2.toInt < (eA g0 233 0).toInt ∧ 0 ≤ a3.toInt ∧ a3.toInt < (eA g0 233 0).toInt) ∧ (eA g0 233 1).toInt < 8) ∧ i = 46 + 6 * (eA g0 233 1).toInt + 4) from fun z => kn z.1)).symm; refine Eq.trans ?_ (if_neg (show ¬ (((1 ≤ a1.toInt ∧ a1.toInt ≤ 9 ∧ 0 ≤ a4.toInt ∧ a4.toInt ≤ 99 ∧ 0 ≤ a5.toInt ∧ a5.toInt ≤ 9 ∧ 0 ≤ a6.toInt ∧ a6.toInt ≤ 9999) ∧ (0 ≤ a2.toInt ∧ a2.toInt < (eA g0 233 0).toInt ∧ 0 ≤ a3.toInt ∧ a3.toInt < (eA g0 233 0).toInt) ∧ (eA g0 233 1).toInt < 8) ∧ i = 46 + 6 * (eA g0 233 1).toInt + 5) from fun z => kn z.1)).symm; refine (eA_ti (((hF354.2.1 233 ma_X11_tell_231_233).trans (gA_sI)))).trans ?_; (first | with_reducible rfl | omega | exact eA_ix (by omega) | rfl))⟩, (SU.mk (by omega))⟩⟩
      · have c351_ : v350.toInt ≥ 0 := en_j_lt_f c351
        refine At.enter rfl ?_
        refine r_lload_n rfl ?_
        refine r_lload rfl ?_
        refine r_lcmp _ rfl ?_
        refine r_ifs 13 rfl (fun c383 => ?_) (fun c383 => ?_)
        · have c383_ : v350.toInt > 99 := en_j_gt_t c383
          refine At.enter rfl ?_
          refine r_iconst 0 rfl ?_
          refine Ar.fall 18 rfl ?_
          refine At.enter rfl ?_
          refine q_iretz (by decide) ?_
          refine At.enter rfl ?_
          refine r_ift (by decide) ?_
          refine At.enter rfl ?_
          refine r_iconst 0 rfl ?_
          refine Ar.fall 53 rfl ?_
          refine At.enter rfl ?_
          refine q_iretz (by decide) ?_
          refine At.enter rfl ?_
          refine r_iff 18 rfl (by decide) ?_
          refine At.enter rfl ?_
          refine r_aload_n rfl ?_
          refine r_iconst (-1) rfl ?_
          refine r_callV 23 rfl [.ref 231, .int (-1)] [] (Nat.le_of_ble_eq_true rfl) rfl (T_X11_tell_231 _ hI283 (-1) (by decide)) ?_
          rintro _ _ ⟨g384, rfl, hI385, hF386, v387, rfl, hr388⟩
          refine At.sti ?_
          have hF389 := Fr.tr hF284 hF386 rfl rfl
          have zv390 : ((-1) : Int32).toInt = (-1) := rfl
          refine At.enter rfl ?_
          refine r_ireti ?_
          obtain ⟨v391, hv391⟩ : ∃ v, eA g0 233 1 = v := ⟨_, rfl⟩
          have tv391 := congrArg Int32.toInt hv391
          have wv391 := HI.t1 hI0
          rw [hv391] at wv391
          have tv391 := congrArg Int32.toInt hv391
          have x392 := HI.eqA hI385 (p := 233) (j := 1) ((((eA_c (hF386.2.1 233 ma_X11_tell_231_233)).trans (eA_c gA_sI)).trans hv391))
          obtain ⟨v393, hv393⟩ : ∃ v, eA g0 233 0 = v := ⟨_, rfl⟩
          have tv393 := congrArg Int32.toInt hv393
          have wv393 := HI.t0 hI0
          rw [hv393] at wv393
          have tv393 := congrArg Int32.toInt hv393
          have x394 := HI.eqA hI385 (p := 233) (j := 0) ((((eA_c (hF386.2.1 233 ma_X11_tell_231_233)).trans (eA_c gA_sI)).trans hv393))
          obtain ⟨v395, hv395⟩ : ∃ v, eA g0 233 4 = v := ⟨_, rfl⟩
          have wv395 := HI.t4 hI0
          rw [hv395] at wv395
          have tv395 := congrArg Int32.toInt hv395
          have x396 := HI.eqA hI385 (p := 233) (j := 4) ((((eA_c (hF386.2.1 233 ma_X11_tell_231_233)).trans (eA_c gA_sI)).trans hv395))
          obtain ⟨v397, hv397⟩ : ∃ v, eA g0 233 5 = v := ⟨_, rfl⟩
          have wv397 := HI.t5 hI0
          rw [hv397] at wv397
          have tv397 := congrArg Int32.toInt hv397
          have x398 := HI.eqA hI385 (p := 233) (j := 5) ((((eA_c (hF386.2.1 233 ma_X11_tell_231_233)).trans (eA_c gA_sI)).trans hv397))
          obtain ⟨v399, hv399⟩ : ∃ v, eA g0 233 6 = v := ⟨_, rfl⟩
          have wv399 := HI.t6 hI0
          rw [hv399] at wv399
          have tv399 := congrArg Int32.toInt hv399
          have x400 := HI.eqA hI385 (p := 233) (j := 6) ((((eA_c (hF386.2.1 233 ma_X11_tell_231_233)).trans (eA_c gA_sI)).trans hv399))
          obtain ⟨v401, hv401⟩ : ∃ v, eA g0 233 2 = v := ⟨_, rfl⟩
          have tv401 := congrArg Int32.toInt hv401
          have wv401 := HI.t2 hI0
          rw [hv401] at wv401
          have tv401 := congrArg Int32.toInt hv401
          have x402 := HI.eqA hI385 (p := 233) (j := 2) ((((eA_c (hF386.2.1 233 ma_X11_tell_231_233)).trans (eA_c gA_sI)).trans hv401))
          obtain ⟨v403, hv403⟩ : ∃ v, eA g0 233 3 = v := ⟨_, rfl⟩
          have wv403 := HI.t3 hI0
          rw [hv403] at wv403
          have tv403 := congrArg Int32.toInt hv403
          have x404 := HI.eqA hI385 (p := 233) (j := 3) ((((eA_c (hF386.2.1 233 ma_X11_tell_231_233)).trans (eA_c gA_sI)).trans hv403))
          have x405 := HI.eqA hI0 (p := 233) (j := 1) (hv391)
          have x406 := HI.eqA hI0 (p := 233) (j := 0) (hv393)
          have x407 := HI.eqA hI0 (p := 233) (j := 0) (hv393)
          have x408 := HI.eqA hI0 (p := 233) (j := 4) (hv395)
          have x409 := HI.eqA hI0 (p := 233) (j := 5) (hv397)
          have x410 := HI.eqA hI0 (p := 233) (j := 6) (hv399)
          have x411 := HI.eqA hI0 (p := 233) (j := 2) (hv401)
          have x412 := HI.eqA hI0 (p := 233) (j := 3) (hv403)
          obtain ⟨v413, hv413⟩ : ∃ v, gI g384 231 1 = v := ⟨_, rfl⟩
          have tv413 := congrArg Int32.toInt hv413
          exact ⟨_, rfl, hI385, hF389, _, rfl, by omega, ⟨⟨⟨by omega, by omega, by omega, by omega, by omega, by omega, by omega, by omega, by omega, by omega⟩, (by intro i i0 i1; refine (eA_ti (((hF386.2.1 233 ma_X11_tell_231_233).trans (gA_sI)))).trans ?_; (first | with_reducible rfl | omega | exact eA_ix (by omega) | rfl)), (by intro i i0 i1; refine (eA_ti (((hF386.2.1 233 ma_X11_tell_231_233).trans (gA_sI)))).trans ?_; (first | with_reducible rfl | omega | exact eA_ix (by omega) | rfl)), (by have kn : ¬ ((1 ≤ a1.toInt ∧ a1.toInt ≤ 9 ∧ 0 ≤ a4.toInt ∧ a4.toInt ≤ 99 ∧ 0 ≤ a5.toInt ∧ a5.toInt ≤ 9 ∧ 0 ≤ a6.toInt ∧ a6.toInt ≤ 9999) ∧ (0 ≤ a2.toInt ∧ a2.toInt < (eA g0 233 0).toInt ∧ 0 ≤ a3.toInt ∧ a3.toInt < (eA g0 233 0).toInt) ∧ (eA g0 233 1).toInt < 8) := (by omega); intro i i0 i1; refine Eq.trans ?_ (if_neg (show ¬ (((1 ≤ a1.toInt ∧ a1.toInt ≤ 9 ∧ 0 ≤ a4.toInt ∧ a4.toInt ≤ 99 ∧ 0 ≤ a5.toInt ∧ a5.toInt ≤ 9 ∧ 0 ≤ a6.toInt ∧ a6.toInt ≤ 9999) ∧ (0 ≤ a2.toInt ∧ a2.toInt < (eA g0 233 0).toInt ∧ 0 ≤ a3.toInt ∧ a3.toInt < (eA g0 233 0).toInt) ∧ (eA g0 233 1).toInt < 8) ∧ i = 46 + 6 * (eA g0 233 1).toInt + 0) from fun z => kn z.1)).symm; refine Eq.trans ?_ (if_neg (show ¬ (((1 ≤ a1.toInt ∧ a1.toInt ≤ 9 ∧ 0 ≤ a4.toInt ∧ a4.toInt ≤ 99 ∧ 0 ≤ a5.toInt ∧ a5.toInt ≤ 9 ∧ 0 ≤ a6.toInt ∧ a6.toInt ≤ 9999) ∧ (0 ≤ a2.toInt ∧ a2.toInt < (eA g0 233 0).toInt ∧ 0 ≤ a3.toInt ∧ a3.toInt < (eA g0 233 0).toInt) ∧ (eA g0 233 1).toInt < 8) ∧ i = 46 + 6 * (eA g0 233 1).toInt + 1) from fun z => kn z.1)).symm; refine Eq.trans ?_ (if_neg (show ¬ (((1 ≤ a1.toInt ∧ a1.toInt ≤ 9 ∧ 0 ≤ a4.toInt ∧ a4.toInt ≤ 99 ∧ 0 ≤ a5.toInt ∧ a5.toInt ≤ 9 ∧ 0 ≤ a6.toInt ∧ a6.toInt ≤ 9999) ∧ (0 ≤ a2.toInt ∧ a2.toInt < (eA g0 233 0).toInt ∧ 0 ≤ a3.toInt ∧ a3.toInt < (eA g0 233 0).toInt) ∧ (eA g0 233 1).toInt < 8) ∧ i = 46 + 6 * (eA g0 233 1).toInt + 2) from fun z => kn z.1)).symm; refine Eq.trans ?_ (if_neg (show ¬ (((1 ≤ a1.toInt ∧ a1.toInt ≤ 9 ∧ 0 ≤ a4.toInt ∧ a4.toInt ≤ 99 ∧ 0 ≤ a5.toInt ∧ a5.toInt ≤ 9 ∧ 0 ≤ a6.toInt ∧ a6.toInt ≤ 9999) ∧ (0 ≤ a2.toInt ∧ a2.toInt < (eA g0 233 0).toInt ∧ 0 ≤ a3.toInt ∧ a3.toInt < (eA g0 233 0).toInt) ∧ (eA g0 233 1).toInt < 8) ∧ i = 46 + 6 * (eA g0 233 1).toInt + 3) from fun z => kn z.1)).symm; refine Eq.trans ?_ (if_neg (show ¬ (((1 ≤ a1.toInt ∧ a1.toInt ≤ 9 ∧ 0 ≤ a4.toInt ∧ a4.toInt ≤ 99 ∧ 0 ≤ a5.toInt ∧ a5.toInt ≤ 9 ∧ 0 ≤ a6.toInt ∧ a6.toInt ≤ 9999) ∧ (0 ≤ a2.toInt ∧ a2.toInt < (eA g0 233 0).toInt ∧ 0 ≤ a3.toInt ∧ a3.toInt < (eA g0 233 0).toInt) ∧ (eA g0 233 1).toInt < 8) ∧ i = 46 + 6 * (eA g0 233 1).toInt + 4) from fun z => kn z.1)).symm; refine Eq.trans ?_ (if_neg (show ¬ (((1 ≤ a1.toInt ∧ a1.toInt ≤ 9 ∧ 0 ≤ a4.toInt ∧ a4.toInt ≤ 99 ∧ 0 ≤ a5.toInt ∧ a5.toInt ≤ 9 ∧ 0 ≤ a6.toInt ∧ a6.toInt ≤ 9999) ∧ (0 ≤ a2.toInt ∧ a2.toInt < (eA g0 233 0).toInt ∧ 0 ≤ a3.toInt ∧ a3.toInt < (eA g0 233 0).toInt) ∧ (eA g0 233 1).toInt < 8) ∧ i = 46 + 6 * (eA g0 233 1).toInt + 5) from fun z => kn z.1)).symm; refine (eA_ti (((hF386.2.1 233 ma_X11_tell_231_233).trans (gA_sI)))).trans ?_; (first | with_reducible rfl | omega | exact eA_ix (by omega) | rfl))⟩, (SU.mk (by omega))⟩⟩
        · have c383_ : v350.toInt ≤ 99 := en_j_gt_f c383
          refine At.enter rfl ?_
          refine r_iconst 1 rfl ?_
          refine r_goto ?_
          refine At.enter rfl ?_
          refine q_iretz (by decide) ?_
          refine At.enter rfl ?_
          refine r_iff 24 rfl (by decide) ?_
          refine At.enter rfl ?_
          refine r_iload_n rfl ?_
          refine q_i2l (fun v415 hv415 => ?_)
          refine r_lconst 0 rfl ?_
          refine r_ldc2 9 rfl ?_
          refine q_inlS 33 rfl [.long v415, .long 0, .long 9] [] (Nat.le_of_ble_eq_true rfl) rfl ?_
          refine Ev.mk rfl rfl ⟨Nat.le_of_ble_eq_true rfl, Or.inl rfl⟩ ?_
          show At _ none _ _ (0, [(0, .long v415), (2, .long 0), (4, .long 9)], [], (_, _)) _
          refine At.enter rfl ?_
          refine r_lload_n rfl ?_
          refine r_lload_n rfl ?_
          refine r_lcmp _ rfl ?_
          refine r_ifs 6 rfl (fun c416 => ?_) (fun c416 => ?_)
          · have c416_ : v415.toInt < 0 := en_j_lt_t c416
            refine At.enter rfl ?_
            refine r_iconst 0 rfl ?_
            refine Ar.fall 18 rfl ?_
            refine At.enter rfl ?_
            refine q_iretz (by decide) ?_
            refine At.enter rfl ?_
            refine r_ift (by decide) ?_
            refine At.enter rfl ?_
            refine r_iconst 0 rfl ?_
            refine Ar.fall 53 rfl ?_
            refine At.enter rfl ?_
            refine q_iretz (by decide) ?_
            refine At.enter rfl ?_
            refine r_iff 18 rfl (by decide) ?_
            refine At.enter rfl ?_
            refine r_aload_n rfl ?_
            refine r_iconst (-1) rfl ?_
            refine r_callV 23 rfl [.ref 231, .int (-1)] [] (Nat.le_of_ble_eq_true rfl) rfl (T_X11_tell_231 _ hI283 (-1) (by decide)) ?_
            rintro _ _ ⟨g417, rfl, hI418, hF419, v420, rfl, hr421⟩
            refine At.sti ?_
            have hF422 := Fr.tr hF284 hF419 rfl rfl
            have zv423 : ((-1) : Int32).toInt = (-1) := rfl
            refine At.enter rfl ?_
            refine r_ireti ?_
            obtain ⟨v424, hv424⟩ : ∃ v, eA g0 233 1 = v := ⟨_, rfl⟩
            have tv424 := congrArg Int32.toInt hv424
            have wv424 := HI.t1 hI0
            rw [hv424] at wv424
            have tv424 := congrArg Int32.toInt hv424
            have x425 := HI.eqA hI418 (p := 233) (j := 1) ((((eA_c (hF419.2.1 233 ma_X11_tell_231_233)).trans (eA_c gA_sI)).trans hv424))
            obtain ⟨v426, hv426⟩ : ∃ v, eA g0 233 0 = v := ⟨_, rfl⟩
            have tv426 := congrArg Int32.toInt hv426
            have wv426 := HI.t0 hI0
            rw [hv426] at wv426
            have tv426 := congrArg Int32.toInt hv426
            have x427 := HI.eqA hI418 (p := 233) (j := 0) ((((eA_c (hF419.2.1 233 ma_X11_tell_231_233)).trans (eA_c gA_sI)).trans hv426))
            obtain ⟨v428, hv428⟩ : ∃ v, eA g0 233 4 = v := ⟨_, rfl⟩
            have wv428 := HI.t4 hI0
            rw [hv428] at wv428
            have tv428 := congrArg Int32.toInt hv428
            have x429 := HI.eqA hI418 (p := 233) (j := 4) ((((eA_c (hF419.2.1 233 ma_X11_tell_231_233)).trans (eA_c gA_sI)).trans hv428))
            obtain ⟨v430, hv430⟩ : ∃ v, eA g0 233 5 = v := ⟨_, rfl⟩
            have wv430 := HI.t5 hI0
            rw [hv430] at wv430
            have tv430 := congrArg Int32.toInt hv430
            have x431 := HI.eqA hI418 (p := 233) (j := 5) ((((eA_c (hF419.2.1 233 ma_X11_tell_231_233)).trans (eA_c gA_sI)).trans hv430))
            obtain ⟨v432, hv432⟩ : ∃ v, eA g0 233 6 = v := ⟨_, rfl⟩
            have wv432 := HI.t6 hI0
            rw [hv432] at wv432
            have tv432 := congrArg Int32.toInt hv432
            have x433 := HI.eqA hI418 (p := 233) (j := 6) ((((eA_c (hF419.2.1 233 ma_X11_tell_231_233)).trans (eA_c gA_sI)).trans hv432))
            obtain ⟨v434, hv434⟩ : ∃ v, eA g0 233 2 = v := ⟨_, rfl⟩
            have tv434 := congrArg Int32.toInt hv434
            have wv434 := HI.t2 hI0
            rw [hv434] at wv434
            have tv434 := congrArg Int32.toInt hv434
            have x435 := HI.eqA hI418 (p := 233) (j := 2) ((((eA_c (hF419.2.1 233 ma_X11_tell_231_233)).trans (eA_c gA_sI)).trans hv434))
            obtain ⟨v436, hv436⟩ : ∃ v, eA g0 233 3 = v := ⟨_, rfl⟩
            have wv436 := HI.t3 hI0
            rw [hv436] at wv436
            have tv436 := congrArg Int32.toInt hv436
            have x437 := HI.eqA hI418 (p := 233) (j := 3) ((((eA_c (hF419.2.1 233 ma_X11_tell_231_233)).trans (eA_c gA_sI)).trans hv436))
            have x438 := HI.eqA hI0 (p := 233) (j := 1) (hv424)
            have x439 := HI.eqA hI0 (p := 233) (j := 0) (hv426)
            have x440 := HI.eqA hI0 (p := 233) (j := 0) (hv426)
            have x441 := HI.eqA hI0 (p := 233) (j := 4) (hv428)
            have x442 := HI.eqA hI0 (p := 233) (j := 5) (hv430)
            have x443 := HI.eqA hI0 (p := 233) (j := 6) (hv432)
            have x444 := HI.eqA hI0 (p := 233) (j := 2) (hv434)
            have x445 := HI.eqA hI0 (p := 233) (j := 3) (hv436)
            obtain ⟨v446, hv446⟩ : ∃ v, gI g417 231 1 = v := ⟨_, rfl⟩
            have tv446 := congrArg Int32.toInt hv446
            exact ⟨_, rfl, hI418, hF422, _, rfl, by omega, ⟨⟨⟨by omega, by omega, by omega, by omega, by omega, by omega, by omega, by omega, by omega, by omega⟩, (by intro i i0 i1; refine (eA_ti (((hF419.2.1 233 ma_X11_tell_231_233).trans (gA_sI)))).trans ?_; (first | with_reducible rfl | omega | exact eA_ix (by omega) | rfl)), (by intro i i0 i1; refine (eA_ti (((hF419.2.1 233 ma_X11_tell_231_233).trans (gA_sI)))).trans ?_; (first | with_reducible rfl | omega | exact eA_ix (by omega) | rfl)), (by have kn : ¬ ((1 ≤ a1.toInt ∧ a1.toInt ≤ 9 ∧ 0 ≤ a4.toInt ∧ a4.toInt ≤ 99 ∧ 0 ≤ a5.toInt ∧ a5.toInt ≤ 9 ∧ 0 ≤ a6.toInt ∧ a6.toInt ≤ 9999) ∧ (0 ≤ a2.toInt ∧ a2.toInt < (eA g0 233 0).toInt ∧ 0 ≤ a3.toInt ∧ a3.toInt < (eA g0 233 0).toInt) ∧ (eA g0 233 1).toInt < 8) := (by omega); intro i i0 i1; refine Eq.trans ?_ (if_neg (show ¬ (((1 ≤ a1.toInt ∧ a1.toInt ≤ 9 ∧ 0 ≤ a4.toInt ∧ a4.toInt ≤ 99 ∧ 0 ≤ a5.toInt ∧ a5.toInt ≤ 9 ∧ 0 ≤ a6.toInt ∧ a6.toInt ≤ 9999) ∧ (0 ≤ a2.toInt ∧ a2.toInt < (eA g0 233 0).toInt ∧ 0 ≤ a3.toInt ∧ a3.toInt < (eA g0 233 0).toInt) ∧ (eA g0 233 1).toInt < 8) ∧ i = 46 + 6 * (eA g0 233 1).toInt + 0) from fun z => kn z.1)).symm; refine Eq.trans ?_ (if_neg (show ¬ (((1 ≤ a1.toInt ∧ a1.toInt ≤ 9 ∧ 0 ≤ a4.toInt ∧ a4.toInt ≤ 99 ∧ 0 ≤ a5.toInt ∧ a5.toInt ≤ 9 ∧ 0 ≤ a6.toInt ∧ a6.toInt ≤ 9999) ∧ (0 ≤ a2.toInt ∧ a2.toInt < (eA g0 233 0).toInt ∧ 0 ≤ a3.toInt ∧ a3.toInt < (eA g0 233 0).toInt) ∧ (eA g0 233 1).toInt < 8) ∧ i = 46 + 6 * (eA g0 233 1).toInt + 1) from fun z => kn z.1)).symm; refine Eq.trans ?_ (if_neg (show ¬ (((1 ≤ a1.toInt ∧ a1.toInt ≤ 9 ∧ 0 ≤ a4.toInt ∧ a4.toInt ≤ 99 ∧ 0 ≤ a5.toInt ∧ a5.toInt ≤ 9 ∧ 0 ≤ a6.toInt ∧ a6.toInt ≤ 9999) ∧ (0 ≤ a2.toInt ∧ a2.toInt < (eA g0 233 0).toInt ∧ 0 ≤ a3.toInt ∧ a3.toInt < (eA g0 233 0).toInt) ∧ (eA g0 233 1).toInt < 8) ∧ i = 46 + 6 * (eA g0 233 1).toInt + 2) from fun z => kn z.1)).symm; refine Eq.trans ?_ (if_neg (show ¬ (((1 ≤ a1.toInt ∧ a1.toInt ≤ 9 ∧ 0 ≤ a4.toInt ∧ a4.toInt ≤ 99 ∧ 0 ≤ a5.toInt ∧ a5.toInt ≤ 9 ∧ 0 ≤ a6.toInt ∧ a6.toInt ≤ 9999) ∧ (0 ≤ a2.toInt ∧ a2.toInt < (eA g0 233 0).toInt ∧ 0 ≤ a3.toInt ∧ a3.toInt < (eA g0 233 0).toInt) ∧ (eA g0 233 1).toInt < 8) ∧ i = 46 + 6 * (eA g0 233 1).toInt + 3) from fun z => kn z.1)).symm; refine Eq.trans ?_ (if_neg (show ¬ (((1 ≤ a1.toInt ∧ a1.toInt ≤ 9 ∧ 0 ≤ a4.toInt ∧ a4.toInt ≤ 99 ∧ 0 ≤ a5.toInt ∧ a5.toInt ≤ 9 ∧ 0 ≤ a6.toInt ∧ a6.toInt ≤ 9999) ∧ (0 ≤ a2.toInt ∧ a2.toInt < (eA g0 233 0).toInt ∧ 0 ≤ a3.toInt ∧ a3.toInt < (eA g0 233 0).toInt) ∧ (eA g0 233 1).toInt < 8) ∧ i = 46 + 6 * (eA g0 233 1).toInt + 4) from fun z => kn z.1)).symm; refine Eq.trans ?_ (if_neg (show ¬ (((1 ≤ a1.toInt ∧ a1.toInt ≤ 9 ∧ 0 ≤ a4.toInt ∧ a4.toInt ≤ 99 ∧ 0 ≤ a5.toInt ∧ a5.toInt ≤ 9 ∧ 0 ≤ a6.toInt ∧ a6.toInt ≤ 9999) ∧ (0 ≤ a2.toInt ∧ a2.toInt < (eA g0 233 0).toInt ∧ 0 ≤ a3.toInt ∧ a3.toInt < (eA g0 233 0).toInt) ∧ (eA g0 233 1).toInt < 8) ∧ i = 46 + 6 * (eA g0 233 1).toInt + 5) from fun z => kn z.1)).symm; refine (eA_ti (((hF419.2.1 233 ma_X11_tell_231_233).trans (gA_sI)))).trans ?_; (first | with_reducible rfl | omega | exact eA_ix (by omega) | rfl))⟩, (SU.mk (by omega))⟩⟩
          · have c416_ : v415.toInt ≥ 0 := en_j_lt_f c416
            refine At.enter rfl ?_
            refine r_lload_n rfl ?_
            refine r_lload rfl ?_
            refine r_lcmp _ rfl ?_
            refine r_ifs 13 rfl (fun c448 => ?_) (fun c448 => ?_)
            · have c448_ : v415.toInt > 9 := en_j_gt_t c448
              refine At.enter rfl ?_
              refine r_iconst 0 rfl ?_
              refine Ar.fall 18 rfl ?_
              refine At.enter rfl ?_
              refine q_iretz (by decide) ?_
              refine At.enter rfl ?_
              refine r_ift (by decide) ?_
              refine At.enter rfl ?_
              refine r_iconst 0 rfl ?_
              refine Ar.fall 53 rfl ?_
              refine At.enter rfl ?_
              refine q_iretz (by decide) ?_
              refine At.enter rfl ?_
              refine r_iff 18 rfl (by decide) ?_
              refine At.enter rfl ?_
              refine r_aload_n rfl ?_
              refine r_iconst (-1) rfl ?_
              refine r_callV 23 rfl [.ref 231, .int (-1)] [] (Nat.le_of_ble_eq_true rfl) rfl (T_X11_tell_231 _ hI283 (-1) (by decide)) ?_
              rintro _ _ ⟨g449, rfl, hI450, hF451, v452, rfl, hr453⟩
              refine At.sti ?_
              have hF454 := Fr.tr hF284 hF451 rfl rfl
              have zv455 : ((-1) : Int32).toInt = (-1) := rfl
              refine At.enter rfl ?_
              refine r_ireti ?_
              obtain ⟨v456, hv456⟩ : ∃ v, eA g0 233 1 = v := ⟨_, rfl⟩
              have tv456 := congrArg Int32.toInt hv456
              have wv456 := HI.t1 hI0
              rw [hv456] at wv456
              have tv456 := congrArg Int32.toInt hv456
              have x457 := HI.eqA hI450 (p := 233) (j := 1) ((((eA_c (hF451.2.1 233 ma_X11_tell_231_233)).trans (eA_c gA_sI)).trans hv456))
              obtain ⟨v458, hv458⟩ : ∃ v, eA g0 233 0 = v := ⟨_, rfl⟩
              have tv458 := congrArg Int32.toInt hv458
              have wv458 := HI.t0 hI0
              rw [hv458] at wv458
              have tv458 := congrArg Int32.toInt hv458
              have x459 := HI.eqA hI450 (p := 233) (j := 0) ((((eA_c (hF451.2.1 233 ma_X11_tell_231_233)).trans (eA_c gA_sI)).trans hv458))
              obtain ⟨v460, hv460⟩ : ∃ v, eA g0 233 4 = v := ⟨_, rfl⟩
              have wv460 := HI.t4 hI0
              rw [hv460] at wv460
              have tv460 := congrArg Int32.toInt hv460
              have x461 := HI.eqA hI450 (p := 233) (j := 4) ((((eA_c (hF451.2.1 233 ma_X11_tell_231_233)).trans (eA_c gA_sI)).trans hv460))
              obtain ⟨v462, hv462⟩ : ∃ v, eA g0 233 5 = v := ⟨_, rfl⟩
              have wv462 := HI.t5 hI0
              rw [hv462] at wv462
              have tv462 := congrArg Int32.toInt hv462
              have x463 := HI.eqA hI450 (p := 233) (j := 5) ((((eA_c (hF451.2.1 233 ma_X11_tell_231_233)).trans (eA_c gA_sI)).trans hv462))
              obtain ⟨v464, hv464⟩ : ∃ v, eA g0 233 6 = v := ⟨_, rfl⟩
              have wv464 := HI.t6 hI0
              rw [hv464] at wv464
              have tv464 := congrArg Int32.toInt hv464
              have x465 := HI.eqA hI450 (p := 233) (j := 6) ((((eA_c (hF451.2.1 233 ma_X11_tell_231_233)).trans (eA_c gA_sI)).trans hv464))
              obtain ⟨v466, hv466⟩ : ∃ v, eA g0 233 2 = v := ⟨_, rfl⟩
              have tv466 := congrArg Int32.toInt hv466
              have wv466 := HI.t2 hI0
              rw [hv466] at wv466
              have tv466 := congrArg Int32.toInt hv466
              have x467 := HI.eqA hI450 (p := 233) (j := 2) ((((eA_c (hF451.2.1 233 ma_X11_tell_231_233)).trans (eA_c gA_sI)).trans hv466))
              obtain ⟨v468, hv468⟩ : ∃ v, eA g0 233 3 = v := ⟨_, rfl⟩
              have wv468 := HI.t3 hI0
              rw [hv468] at wv468
              have tv468 := congrArg Int32.toInt hv468
              have x469 := HI.eqA hI450 (p := 233) (j := 3) ((((eA_c (hF451.2.1 233 ma_X11_tell_231_233)).trans (eA_c gA_sI)).trans hv468))
              have x470 := HI.eqA hI0 (p := 233) (j := 1) (hv456)
              have x471 := HI.eqA hI0 (p := 233) (j := 0) (hv458)
              have x472 := HI.eqA hI0 (p := 233) (j := 0) (hv458)
              have x473 := HI.eqA hI0 (p := 233) (j := 4) (hv460)
              have x474 := HI.eqA hI0 (p := 233) (j := 5) (hv462)
              have x475 := HI.eqA hI0 (p := 233) (j := 6) (hv464)
              have x476 := HI.eqA hI0 (p := 233) (j := 2) (hv466)
              have x477 := HI.eqA hI0 (p := 233) (j := 3) (hv468)
              obtain ⟨v478, hv478⟩ : ∃ v, gI g449 231 1 = v := ⟨_, rfl⟩
              have tv478 := congrArg Int32.toInt hv478
              exact ⟨_, rfl, hI450, hF454, _, rfl, by omega, ⟨⟨⟨by omega, by omega, by omega, by omega, by omega, by omega, by omega, by omega, by omega, by omega⟩, (by intro i i0 i1; refine (eA_ti (((hF451.2.1 233 ma_X11_tell_231_233).trans (gA_sI)))).trans ?_; (first | with_reducible rfl | omega | exact eA_ix (by omega) | rfl)), (by intro i i0 i1; refine (eA_ti (((hF451.2.1 233 ma_X11_tell_231_233).trans (gA_sI)))).trans ?_; (first | with_reducible rfl | omega | exact eA_ix (by omega) | rfl)), (by have kn : ¬ ((1 ≤ a1.toInt ∧ a1.toInt ≤ 9 ∧ 0 ≤ a4.toInt ∧ a4.toInt ≤ 99 ∧ 0 ≤ a5.toInt ∧ a5.toInt ≤ 9 ∧ 0 ≤ a6.toInt ∧ a6.toInt ≤ 9999) ∧ (0 ≤ a2.toInt ∧ a2.toInt < (eA g0 233 0).toInt ∧ 0 ≤ a3.toInt ∧ a3.toInt < (eA g0 233 0).toInt) ∧ (eA g0 233 1).toInt < 8) := (by omega); intro i i0 i1; refine Eq.trans ?_ (if_neg (show ¬ (((1 ≤ a1.toInt ∧ a1.toInt ≤ 9 ∧ 0 ≤ a4.toInt ∧ a4.toInt ≤ 99 ∧ 0 ≤ a5.toInt ∧ a5.toInt ≤ 9 ∧ 0 ≤ a6.toInt ∧ a6.toInt ≤ 9999) ∧ (0 ≤ a2.toInt ∧ a2.toInt < (eA g0 233 0).toInt ∧ 0 ≤ a3.toInt ∧ a3.toInt < (eA g0 233 0).toInt) ∧ (eA g0 233 1).toInt < 8) ∧ i = 46 + 6 * (eA g0 233 1).toInt + 0) from fun z => kn z.1)).symm; refine Eq.trans ?_ (if_neg (show ¬ (((1 ≤ a1.toInt ∧ a1.toInt ≤ 9 ∧ 0 ≤ a4.toInt ∧ a4.toInt ≤ 99 ∧ 0 ≤ a5.toInt ∧ a5.toInt ≤ 9 ∧ 0 ≤ a6.toInt ∧ a6.toInt ≤ 9999) ∧ (0 ≤ a2.toInt ∧ a2.toInt < (eA g0 233 0).toInt ∧ 0 ≤ a3.toInt ∧ a3.toInt < (eA g0 233 0).toInt) ∧ (eA g0 233 1).toInt < 8) ∧ i = 46 + 6 * (eA g0 233 1).toInt + 1) from fun z => kn z.1)).symm; refine Eq.trans ?_ (if_neg (show ¬ (((1 ≤ a1.toInt ∧ a1.toInt ≤ 9 ∧ 0 ≤ a4.toInt ∧ a4.toInt ≤ 99 ∧ 0 ≤ a5.toInt ∧ a5.toInt ≤ 9 ∧ 0 ≤ a6.toInt ∧ a6.toInt ≤ 9999) ∧ (0 ≤ a2.toInt ∧ a2.toInt < (eA g0 233 0).toInt ∧ 0 ≤ a3.toInt ∧ a3.toInt < (eA g0 233 0).toInt) ∧ (eA g0 233 1).toInt < 8) ∧ i = 46 + 6 * (eA g0 233 1).toInt + 2) from fun z => kn z.1)).symm; refine Eq.trans ?_ (if_neg (show ¬ (((1 ≤ a1.toInt ∧ a1.toInt ≤ 9 ∧ 0 ≤ a4.toInt ∧ a4.toInt ≤ 99 ∧ 0 ≤ a5.toInt ∧ a5.toInt ≤ 9 ∧ 0 ≤ a6.toInt ∧ a6.toInt ≤ 9999) ∧ (0 ≤ a2.toInt ∧ a2.toInt < (eA g0 233 0).toInt ∧ 0 ≤ a3.toInt ∧ a3.toInt < (eA g0 233 0).toInt) ∧ (eA g0 233 1).toInt < 8) ∧ i = 46 + 6 * (eA g0 233 1).toInt + 3) from fun z => kn z.1)).symm; refine Eq.trans ?_ (if_neg (show ¬ (((1 ≤ a1.toInt ∧ a1.toInt ≤ 9 ∧ 0 ≤ a4.toInt ∧ a4.toInt ≤ 99 ∧ 0 ≤ a5.toInt ∧ a5.toInt ≤ 9 ∧ 0 ≤ a6.toInt ∧ a6.toInt ≤ 9999) ∧ (0 ≤ a2.toInt ∧ a2.toInt < (eA g0 233 0).toInt ∧ 0 ≤ a3.toInt ∧ a3.toInt < (eA g0 233 0).toInt) ∧ (eA g0 233 1).toInt < 8) ∧ i = 46 + 6 * (eA g0 233 1).toInt + 4) from fun z => kn z.1)).symm; refine Eq.trans ?_ (if_neg (show ¬ (((1 ≤ a1.toInt ∧ a1.toInt ≤ 9 ∧ 0 ≤ a4.toInt ∧ a4.toInt ≤ 99 ∧ 0 ≤ a5.toInt ∧ a5.toInt ≤ 9 ∧ 0 ≤ a6.toInt ∧ a6.toInt ≤ 9999) ∧ (0 ≤ a2.toInt ∧ a2.toInt < (eA g0 233 0).toInt ∧ 0 ≤ a3.toInt ∧ a3.toInt < (eA g0 233 0).toInt) ∧ (eA g0 233 1).toInt < 8) ∧ i = 46 + 6 * (eA g0 233 1).toInt + 5) from fun z => kn z.1)).symm; refine (eA_ti (((hF451.2.1 233 ma_X11_tell_231_233).trans (gA_sI)))).trans ?_; (first | with_reducible rfl | omega | exact eA_ix (by omega) | rfl))⟩, (SU.mk (by omega))⟩⟩
            · have c448_ : v415.toInt ≤ 9 := en_j_gt_f c448
              refine At.enter rfl ?_
              refine r_iconst 1 rfl ?_
              refine r_goto ?_
              refine At.enter rfl ?_
              refine q_iretz (by decide) ?_
              refine At.enter rfl ?_
              refine r_iff 36 rfl (by decide) ?_
              refine At.enter rfl ?_
              refine r_iload_n rfl ?_
              refine q_i2l (fun v480 hv480 => ?_)
              refine r_lconst 0 rfl ?_
              refine r_ldc2 9999 rfl ?_
              refine q_inlS 45 rfl [.long v480, .long 0, .long 9999] [] (Nat.le_of_ble_eq_true rfl) rfl ?_
              refine Ev.mk rfl rfl ⟨Nat.le_of_ble_eq_true rfl, Or.inl rfl⟩ ?_
              show At _ none _ _ (0, [(0, .long v480), (2, .long 0), (4, .long 9999)], [], (_, _)) _
              refine At.enter rfl ?_
              refine r_lload_n rfl ?_
              refine r_lload_n rfl ?_
              refine r_lcmp _ rfl ?_
              refine r_ifs 6 rfl (fun c481 => ?_) (fun c481 => ?_)
              · have c481_ : v480.toInt < 0 := en_j_lt_t c481
                refine At.enter rfl ?_
                refine r_iconst 0 rfl ?_
                refine Ar.fall 18 rfl ?_
                refine At.enter rfl ?_
                refine q_iretz (by decide) ?_
                refine At.enter rfl ?_
                refine r_ift (by decide) ?_
                refine At.enter rfl ?_
                refine r_iconst 0 rfl ?_
                refine Ar.fall 53 rfl ?_
                refine At.enter rfl ?_
                refine q_iretz (by decide) ?_
                refine At.enter rfl ?_
                refine r_iff 18 rfl (by decide) ?_
                refine At.enter rfl ?_
                refine r_aload_n rfl ?_
                refine r_iconst (-1) rfl ?_
                refine r_callV 23 rfl [.ref 231, .int (-1)] [] (Nat.le_of_ble_eq_true rfl) rfl (T_X11_tell_231 _ hI283 (-1) (by decide)) ?_
                rintro _ _ ⟨g482, rfl, hI483, hF484, v485, rfl, hr486⟩
                refine At.sti ?_
                have hF487 := Fr.tr hF284 hF484 rfl rfl
                have zv488 : ((-1) : Int32).toInt = (-1) := rfl
                refine At.enter rfl ?_
                refine r_ireti ?_
                obtain ⟨v489, hv489⟩ : ∃ v, eA g0 233 1 = v := ⟨_, rfl⟩
                have tv489 := congrArg Int32.toInt hv489
                have wv489 := HI.t1 hI0
                rw [hv489] at wv489
                have tv489 := congrArg Int32.toInt hv489
                have x490 := HI.eqA hI483 (p := 233) (j := 1) ((((eA_c (hF484.2.1 233 ma_X11_tell_231_233)).trans (eA_c gA_sI)).trans hv489))
                obtain ⟨v491, hv491⟩ : ∃ v, eA g0 233 0 = v := ⟨_, rfl⟩
                have tv491 := congrArg Int32.toInt hv491
                have wv491 := HI.t0 hI0
                rw [hv491] at wv491
                have tv491 := congrArg Int32.toInt hv491
                have x492 := HI.eqA hI483 (p := 233) (j := 0) ((((eA_c (hF484.2.1 233 ma_X11_tell_231_233)).trans (eA_c gA_sI)).trans hv491))
                obtain ⟨v493, hv493⟩ : ∃ v, eA g0 233 4 = v := ⟨_, rfl⟩
                have wv493 := HI.t4 hI0
                rw [hv493] at wv493
                have tv493 := congrArg Int32.toInt hv493
                have x494 := HI.eqA hI483 (p := 233) (j := 4) ((((eA_c (hF484.2.1 233 ma_X11_tell_231_233)).trans (eA_c gA_sI)).trans hv493))
                obtain ⟨v495, hv495⟩ : ∃ v, eA g0 233 5 = v := ⟨_, rfl⟩
                have wv495 := HI.t5 hI0
                rw [hv495] at wv495
                have tv495 := congrArg Int32.toInt hv495
                have x496 := HI.eqA hI483 (p := 233) (j := 5) ((((eA_c (hF484.2.1 233 ma_X11_tell_231_233)).trans (eA_c gA_sI)).trans hv495))
                obtain ⟨v497, hv497⟩ : ∃ v, eA g0 233 6 = v := ⟨_, rfl⟩
                have wv497 := HI.t6 hI0
                rw [hv497] at wv497
                have tv497 := congrArg Int32.toInt hv497
                have x498 := HI.eqA hI483 (p := 233) (j := 6) ((((eA_c (hF484.2.1 233 ma_X11_tell_231_233)).trans (eA_c gA_sI)).trans hv497))
                obtain ⟨v499, hv499⟩ : ∃ v, eA g0 233 2 = v := ⟨_, rfl⟩
                have tv499 := congrArg Int32.toInt hv499
                have wv499 := HI.t2 hI0
                rw [hv499] at wv499
                have tv499 := congrArg Int32.toInt hv499
                have x500 := HI.eqA hI483 (p := 233) (j := 2) ((((eA_c (hF484.2.1 233 ma_X11_tell_231_233)).trans (eA_c gA_sI)).trans hv499))
                obtain ⟨v501, hv501⟩ : ∃ v, eA g0 233 3 = v := ⟨_, rfl⟩
                have wv501 := HI.t3 hI0
                rw [hv501] at wv501
                have tv501 := congrArg Int32.toInt hv501
                have x502 := HI.eqA hI483 (p := 233) (j := 3) ((((eA_c (hF484.2.1 233 ma_X11_tell_231_233)).trans (eA_c gA_sI)).trans hv501))
                have x503 := HI.eqA hI0 (p := 233) (j := 1) (hv489)
                have x504 := HI.eqA hI0 (p := 233) (j := 0) (hv491)
                have x505 := HI.eqA hI0 (p := 233) (j := 0) (hv491)
                have x506 := HI.eqA hI0 (p := 233) (j := 4) (hv493)
                have x507 := HI.eqA hI0 (p := 233) (j := 5) (hv495)
                have x508 := HI.eqA hI0 (p := 233) (j := 6) (hv497)
                have x509 := HI.eqA hI0 (p := 233) (j := 2) (hv499)
                have x510 := HI.eqA hI0 (p := 233) (j := 3) (hv501)
                obtain ⟨v511, hv511⟩ : ∃ v, gI g482 231 1 = v := ⟨_, rfl⟩
                have tv511 := congrArg Int32.toInt hv511
                exact ⟨_, rfl, hI483, hF487, _, rfl, by omega, ⟨⟨⟨by omega, by omega, by omega, by omega, by omega, by omega, by omega, by omega, by omega, by omega⟩, (by intro i i0 i1; refine (eA_ti (((hF484.2.1 233 ma_X11_tell_231_233).trans (gA_sI)))).trans ?_; (first | with_reducible rfl | omega | exact eA_ix (by omega) | rfl)), (by intro i i0 i1; refine (eA_ti (((hF484.2.1 233 ma_X11_tell_231_233).trans (gA_sI)))).trans ?_; (first | with_reducible rfl | omega | exact eA_ix (by omega) | rfl)), (by have kn : ¬ ((1 ≤ a1.toInt ∧ a1.toInt ≤ 9 ∧ 0 ≤ a4.toInt ∧ a4.toInt ≤ 99 ∧ 0 ≤ a5.toInt ∧ a5.toInt ≤ 9 ∧ 0 ≤ a6.toInt ∧ a6.toInt ≤ 9999) ∧ (0 ≤ a2.toInt ∧ a2.toInt < (eA g0 233 0).toInt ∧ 0 ≤ a3.toInt ∧ a3.toInt < (eA g0 233 0).toInt) ∧ (eA g0 233 1).toInt < 8) := (by omega); intro i i0 i1; refine Eq.trans ?_ (if_neg (show ¬ (((1 ≤ a1.toInt ∧ a1.toInt ≤ 9 ∧ 0 ≤ a4.toInt ∧ a4.toInt ≤ 99 ∧ 0 ≤ a5.toInt ∧ a5.toInt ≤ 9 ∧ 0 ≤ a6.toInt ∧ a6.toInt ≤ 9999) ∧ (0 ≤ a2.toInt ∧ a2.toInt < (eA g0 233 0).toInt ∧ 0 ≤ a3.toInt ∧ a3.toInt < (eA g0 233 0).toInt) ∧ (eA g0 233 1).toInt < 8) ∧ i = 46 + 6 * (eA g0 233 1).toInt + 0) from fun z => kn z.1)).symm; refine Eq.trans ?_ (if_neg (show ¬ (((1 ≤ a1.toInt ∧ a1.toInt ≤ 9 ∧ 0 ≤ a4.toInt ∧ a4.toInt ≤ 99 ∧ 0 ≤ a5.toInt ∧ a5.toInt ≤ 9 ∧ 0 ≤ a6.toInt ∧ a6.toInt ≤ 9999) ∧ (0 ≤ a2.toInt ∧ a2.toInt < (eA g0 233 0).toInt ∧ 0 ≤ a3.toInt ∧ a3.toInt < (eA g0 233 0).toInt) ∧ (eA g0 233 1).toInt < 8) ∧ i = 46 + 6 * (eA g0 233 1).toInt + 1) from fun z => kn z.1)).symm; refine Eq.trans ?_ (if_neg (show ¬ (((1 ≤ a1.toInt ∧ a1.toInt ≤ 9 ∧ 0 ≤ a4.toInt ∧ a4.toInt ≤ 99 ∧ 0 ≤ a5.toInt ∧ a5.toInt ≤ 9 ∧ 0 ≤ a6.toInt ∧ a6.toInt ≤ 9999) ∧ (0 ≤ a2.toInt ∧ a2.toInt < (eA g0 233 0).toInt ∧ 0 ≤ a3.toInt ∧ a3.toInt < (eA g0 233 0).toInt) ∧ (eA g0 233 1).toInt < 8) ∧ i = 46 + 6 * (eA g0 233 1).toInt + 2) from fun z => kn z.1)).symm; refine Eq.trans ?_ (if_neg (show ¬ (((1 ≤ a1.toInt ∧ a1.toInt ≤ 9 ∧ 0 ≤ a4.toInt ∧ a4.toInt ≤ 99 ∧ 0 ≤ a5.toInt ∧ a5.toInt ≤ 9 ∧ 0 ≤ a6.toInt ∧ a6.toInt ≤ 9999) ∧ (0 ≤ a2.toInt ∧ a2.toInt < (eA g0 233 0).toInt ∧ 0 ≤ a3.toInt ∧ a3.toInt < (eA g0 233 0).toInt) ∧ (eA g0 233 1).toInt < 8) ∧ i = 46 + 6 * (eA g0 233 1).toInt + 3) from fun z => kn z.1)).symm; refine Eq.trans ?_ (if_neg (show ¬ (((1 ≤ a1.toInt ∧ a1.toInt ≤ 9 ∧ 0 ≤ a4.toInt ∧ a4.toInt ≤ 99 ∧ 0 ≤ a5.toInt ∧ a5.toInt ≤ 9 ∧ 0 ≤ a6.toInt ∧ a6.toInt ≤ 9999) ∧ (0 ≤ a2.toInt ∧ a2.toInt < (eA g0 233 0).toInt ∧ 0 ≤ a3.toInt ∧ a3.toInt < (eA g0 233 0).toInt) ∧ (eA g0 233 1).toInt < 8) ∧ i = 46 + 6 * (eA g0 233 1).toInt + 4) from fun z => kn z.1)).symm; refine Eq.trans ?_ (if_neg (show ¬ (((1 ≤ a1.toInt ∧ a1.toInt ≤ 9 ∧ 0 ≤ a4.toInt ∧ a4.toInt ≤ 99 ∧ 0 ≤ a5.toInt ∧ a5.toInt ≤ 9 ∧ 0 ≤ a6.toInt ∧ a6.toInt ≤ 9999) ∧ (0 ≤ a2.toInt ∧ a2.toInt < (eA g0 233 0).toInt ∧ 0 ≤ a3.toInt ∧ a3.toInt < (eA g0 233 0).toInt) ∧ (eA g0 233 1).toInt < 8) ∧ i = 46 + 6 * (eA g0 233 1).toInt + 5) from fun z => kn z.1)).symm; refine (eA_ti (((hF484.2.1 233 ma_X11_tell_231_233).trans (gA_sI)))).trans ?_; (first | with_reducible rfl | omega | exact eA_ix (by omega) | rfl))⟩, (SU.mk (by omega))⟩⟩
              · have c481_ : v480.toInt ≥ 0 := en_j_lt_f c481
                refine At.enter rfl ?_
                refine r_lload_n rfl ?_
                refine r_lload rfl ?_
                refine r_lcmp _ rfl ?_
                refine r_ifs 13 rfl (fun c513 => ?_) (fun c513 => ?_)
                · have c513_ : v480.toInt > 9999 := en_j_gt_t c513
                  refine At.enter rfl ?_
                  refine r_iconst 0 rfl ?_
                  refine Ar.fall 18 rfl ?_
                  refine At.enter rfl ?_
                  refine q_iretz (by decide) ?_
                  refine At.enter rfl ?_
                  refine r_ift (by decide) ?_
                  refine At.enter rfl ?_
                  refine r_iconst 0 rfl ?_
                  refine Ar.fall 53 rfl ?_
                  refine At.enter rfl ?_
                  refine q_iretz (by decide) ?_
                  refine At.enter rfl ?_
                  refine r_iff 18 rfl (by decide) ?_
                  refine At.enter rfl ?_
                  refine r_aload_n rfl ?_
                  refine r_iconst (-1) rfl ?_
                  refine r_callV 23 rfl [.ref 231, .int (-1)] [] (Nat.le_of_ble_eq_true rfl) rfl (T_X11_tell_231 _ hI283 (-1) (by decide)) ?_
                  rintro _ _ ⟨g514, rfl, hI515, hF516, v517, rfl, hr518⟩
                  refine At.sti ?_
                  have hF519 := Fr.tr hF284 hF516 rfl rfl
                  have zv520 : ((-1) : Int32).toInt = (-1) := rfl
                  refine At.enter rfl ?_
                  refine r_ireti ?_
                  obtain ⟨v521, hv521⟩ : ∃ v, eA g0 233 1 = v := ⟨_, rfl⟩
                  have tv521 := congrArg Int32.toInt hv521
                  have wv521 := HI.t1 hI0
                  rw [hv521] at wv521
                  have tv521 := congrArg Int32.toInt hv521
                  have x522 := HI.eqA hI515 (p := 233) (j := 1) ((((eA_c (hF516.2.1 233 ma_X11_tell_231_233)).trans (eA_c gA_sI)).trans hv521))
                  obtain ⟨v523, hv523⟩ : ∃ v, eA g0 233 0 = v := ⟨_, rfl⟩
                  have tv523 := congrArg Int32.toInt hv523
                  have wv523 := HI.t0 hI0
                  rw [hv523] at wv523
                  have tv523 := congrArg Int32.toInt hv523
                  have x524 := HI.eqA hI515 (p := 233) (j := 0) ((((eA_c (hF516.2.1 233 ma_X11_tell_231_233)).trans (eA_c gA_sI)).trans hv523))
                  obtain ⟨v525, hv525⟩ : ∃ v, eA g0 233 4 = v := ⟨_, rfl⟩
                  have wv525 := HI.t4 hI0
                  rw [hv525] at wv525
                  have tv525 := congrArg Int32.toInt hv525
                  have x526 := HI.eqA hI515 (p := 233) (j := 4) ((((eA_c (hF516.2.1 233 ma_X11_tell_231_233)).trans (eA_c gA_sI)).trans hv525))
                  obtain ⟨v527, hv527⟩ : ∃ v, eA g0 233 5 = v := ⟨_, rfl⟩
                  have wv527 := HI.t5 hI0
                  rw [hv527] at wv527
                  have tv527 := congrArg Int32.toInt hv527
                  have x528 := HI.eqA hI515 (p := 233) (j := 5) ((((eA_c (hF516.2.1 233 ma_X11_tell_231_233)).trans (eA_c gA_sI)).trans hv527))
                  obtain ⟨v529, hv529⟩ : ∃ v, eA g0 233 6 = v := ⟨_, rfl⟩
                  have wv529 := HI.t6 hI0
                  rw [hv529] at wv529
                  have tv529 := congrArg Int32.toInt hv529
                  have x530 := HI.eqA hI515 (p := 233) (j := 6) ((((eA_c (hF516.2.1 233 ma_X11_tell_231_233)).trans (eA_c gA_sI)).trans hv529))
                  obtain ⟨v531, hv531⟩ : ∃ v, eA g0 233 2 = v := ⟨_, rfl⟩
                  have tv531 := congrArg Int32.toInt hv531
                  have wv531 := HI.t2 hI0
                  rw [hv531] at wv531
                  have tv531 := congrArg Int32.toInt hv531
                  have x532 := HI.eqA hI515 (p := 233) (j := 2) ((((eA_c (hF516.2.1 233 ma_X11_tell_231_233)).trans (eA_c gA_sI)).trans hv531))
                  obtain ⟨v533, hv533⟩ : ∃ v, eA g0 233 3 = v := ⟨_, rfl⟩
                  have wv533 := HI.t3 hI0
                  rw [hv533] at wv533
                  have tv533 := congrArg Int32.toInt hv533
                  have x534 := HI.eqA hI515 (p := 233) (j := 3) ((((eA_c (hF516.2.1 233 ma_X11_tell_231_233)).trans (eA_c gA_sI)).trans hv533))
                  have x535 := HI.eqA hI0 (p := 233) (j := 1) (hv521)
                  have x536 := HI.eqA hI0 (p := 233) (j := 0) (hv523)
                  have x537 := HI.eqA hI0 (p := 233) (j := 0) (hv523)
                  have x538 := HI.eqA hI0 (p := 233) (j := 4) (hv525)
                  have x539 := HI.eqA hI0 (p := 233) (j := 5) (hv527)
                  have x540 := HI.eqA hI0 (p := 233) (j := 6) (hv529)
                  have x541 := HI.eqA hI0 (p := 233) (j := 2) (hv531)
                  have x542 := HI.eqA hI0 (p := 233) (j := 3) (hv533)
                  obtain ⟨v543, hv543⟩ : ∃ v, gI g514 231 1 = v := ⟨_, rfl⟩
                  have tv543 := congrArg Int32.toInt hv543
                  exact ⟨_, rfl, hI515, hF519, _, rfl, by omega, ⟨⟨⟨by omega, by omega, by omega, by omega, by omega, by omega, by omega, by omega, by omega, by omega⟩, (by intro i i0 i1; refine (eA_ti (((hF516.2.1 233 ma_X11_tell_231_233).trans (gA_sI)))).trans ?_; (first | with_reducible rfl | omega | exact eA_ix (by omega) | rfl)), (by intro i i0 i1; refine (eA_ti (((hF516.2.1 233 ma_X11_tell_231_233).trans (gA_sI)))).trans ?_; (first | with_reducible rfl | omega | exact eA_ix (by omega) | rfl)), (by have kn : ¬ ((1 ≤ a1.toInt ∧ a1.toInt ≤ 9 ∧ 0 ≤ a4.toInt ∧ a4.toInt ≤ 99 ∧ 0 ≤ a5.toInt ∧ a5.toInt ≤ 9 ∧ 0 ≤ a6.toInt ∧ a6.toInt ≤ 9999) ∧ (0 ≤ a2.toInt ∧ a2.toInt < (eA g0 233 0).toInt ∧ 0 ≤ a3.toInt ∧ a3.toInt < (eA g0 233 0).toInt) ∧ (eA g0 233 1).toInt < 8) := (by omega); intro i i0 i1; refine Eq.trans ?_ (if_neg (show ¬ (((1 ≤ a1.toInt ∧ a1.toInt ≤ 9 ∧ 0 ≤ a4.toInt ∧ a4.toInt ≤ 99 ∧ 0 ≤ a5.toInt ∧ a5.toInt ≤ 9 ∧ 0 ≤ a6.toInt ∧ a6.toInt ≤ 9999) ∧ (0 ≤ a2.toInt ∧ a2.toInt < (eA g0 233 0).toInt ∧ 0 ≤ a3.toInt ∧ a3.toInt < (eA g0 233 0).toInt) ∧ (eA g0 233 1).toInt < 8) ∧ i = 46 + 6 * (eA g0 233 1).toInt + 0) from fun z => kn z.1)).symm; refine Eq.trans ?_ (if_neg (show ¬ (((1 ≤ a1.toInt ∧ a1.toInt ≤ 9 ∧ 0 ≤ a4.toInt ∧ a4.toInt ≤ 99 ∧ 0 ≤ a5.toInt ∧ a5.toInt ≤ 9 ∧ 0 ≤ a6.toInt ∧ a6.toInt ≤ 9999) ∧ (0 ≤ a2.toInt ∧ a2.toInt < (eA g0 233 0).toInt ∧ 0 ≤ a3.toInt ∧ a3.toInt < (eA g0 233 0).toInt) ∧ (eA g0 233 1).toInt < 8) ∧ i = 46 + 6 * (eA g0 233 1).toInt + 1) from fun z => kn z.1)).symm; refine Eq.trans ?_ (if_neg (show ¬ (((1 ≤ a1.toInt ∧ a1.toInt ≤ 9 ∧ 0 ≤ a4.toInt ∧ a4.toInt ≤ 99 ∧ 0 ≤ a5.toInt ∧ a5.toInt ≤ 9 ∧ 0 ≤ a6.toInt ∧ a6.toInt ≤ 9999) ∧ (0 ≤ a2.toInt ∧ a2.toInt < (eA g0 233 0).toInt ∧ 0 ≤ a3.toInt ∧ a3.toInt < (eA g0 233 0).toInt) ∧ (eA g0 233 1).toInt < 8) ∧ i = 46 + 6 * (eA g0 233 1).toInt + 2) from fun z => kn z.1)).symm; refine Eq.trans ?_ (if_neg (show ¬ (((1 ≤ a1.toInt ∧ a1.toInt ≤ 9 ∧ 0 ≤ a4.toInt ∧ a4.toInt ≤ 99 ∧ 0 ≤ a5.toInt ∧ a5.toInt ≤ 9 ∧ 0 ≤ a6.toInt ∧ a6.toInt ≤ 9999) ∧ (0 ≤ a2.toInt ∧ a2.toInt < (eA g0 233 0).toInt ∧ 0 ≤ a3.toInt ∧ a3.toInt < (eA g0 233 0).toInt) ∧ (eA g0 233 1).toInt < 8) ∧ i = 46 + 6 * (eA g0 233 1).toInt + 3) from fun z => kn z.1)).symm; refine Eq.trans ?_ (if_neg (show ¬ (((1 ≤ a1.toInt ∧ a1.toInt ≤ 9 ∧ 0 ≤ a4.toInt ∧ a4.toInt ≤ 99 ∧ 0 ≤ a5.toInt ∧ a5.toInt ≤ 9 ∧ 0 ≤ a6.toInt ∧ a6.toInt ≤ 9999) ∧ (0 ≤ a2.toInt ∧ a2.toInt < (eA g0 233 0).toInt ∧ 0 ≤ a3.toInt ∧ a3.toInt < (eA g0 233 0).toInt) ∧ (eA g0 233 1).toInt < 8) ∧ i = 46 + 6 * (eA g0 233 1).toInt + 4) from fun z => kn z.1)).symm; refine Eq.trans ?_ (if_neg (show ¬ (((1 ≤ a1.toInt ∧ a1.toInt ≤ 9 ∧ 0 ≤ a4.toInt ∧ a4.toInt ≤ 99 ∧ 0 ≤ a5.toInt ∧ a5.toInt ≤ 9 ∧ 0 ≤ a6.toInt ∧ a6.toInt ≤ 9999) ∧ (0 ≤ a2.toInt ∧ a2.toInt < (eA g0 233 0).toInt ∧ 0 ≤ a3.toInt ∧ a3.toInt < (eA g0 233 0).toInt) ∧ (eA g0 233 1).toInt < 8) ∧ i = 46 + 6 * (eA g0 233 1).toInt + 5) from fun z => kn z.1)).symm; refine (eA_ti (((hF516.2.1 233 ma_X11_tell_231_233).trans (gA_sI)))).trans ?_; (first | with_reducible rfl | omega | exact eA_ix (by omega) | rfl))⟩, (SU.mk (by omega))⟩⟩
                · have c513_ : v480.toInt ≤ 9999 := en_j_gt_f c513
                  refine At.enter rfl ?_
                  refine r_iconst 1 rfl ?_
                  refine r_goto ?_
                  refine At.enter rfl ?_
                  refine q_iretz (by decide) ?_
                  refine At.enter rfl ?_
                  refine r_iff 48 rfl (by decide) ?_
                  refine At.enter rfl ?_
                  refine r_iconst 1 rfl ?_
                  refine r_goto ?_
                  refine At.enter rfl ?_
                  refine q_iretz (by decide) ?_
                  refine At.enter rfl ?_
                  refine r_ift (by decide) ?_
                  refine At.enter rfl ?_
                  refine r_aload_n rfl ?_
                  refine r_iload_n rfl ?_
                  refine q_inlV 29 rfl [.ref 231, .int a2] [] (Nat.le_of_ble_eq_true rfl) rfl ?_
                  refine Ev.mk rfl rfl ⟨Nat.le_of_ble_eq_true rfl, Or.inr (q_rc hI283.1 kx_231 rfl)⟩ ?_
                  show At _ none _ _ (0, [(0, .ref 231), (1, .int a2)], [], (_, _)) _
                  refine At.enter rfl ?_
                  refine r_iload_n rfl ?_
                  refine q_i2l (fun v545 hv545 => ?_)
                  refine r_lconst 0 rfl ?_
                  refine r_aload_n rfl ?_
                  refine q_getR (Sh.ref hI283.1 kx_231 rfl) ?_
                  refine r_iconst 0 rfl ?_
                  obtain ⟨v546, hv546⟩ : ∃ v, eA g0 233 0 = v := ⟨_, rfl⟩
                  have tv546 := congrArg Int32.toInt hv546
                  have wv546 := HI.t0 hI0
                  rw [hv546] at wv546
                  refine q_iald (Sh.arr hI283.1 ka_233) 0 rfl (by decide) v546 ((eA_c (gA_sI)).trans hv546) ?_
                  refine q_i2l (fun v547 hv547 => ?_)
                  refine r_lconst 1 rfl ?_
                  refine q_lsub (v547.toInt - 1) rfl (by omega) (fun v548 hv548 => ?_)
                  refine q_inlS 15 rfl [.long v545, .long 0, .long v548] [] (Nat.le_of_ble_eq_true rfl) rfl ?_
                  refine Ev.mk rfl rfl ⟨Nat.le_of_ble_eq_true rfl, Or.inl rfl⟩ ?_
                  show At _ none _ _ (0, [(0, .long v545), (2, .long 0), (4, .long v548)], [], (_, _)) _
                  refine At.enter rfl ?_
                  refine r_lload_n rfl ?_
                  refine r_lload_n rfl ?_
                  refine r_lcmp _ rfl ?_
                  refine r_ifs 6 rfl (fun c549 => ?_) (fun c549 => ?_)
                  · have c549_ : v545.toInt < 0 := en_j_lt_t c549
                    refine At.enter rfl ?_
                    refine r_iconst 0 rfl ?_
                    refine Ar.fall 18 rfl ?_
                    refine At.enter rfl ?_
                    refine q_iretz (by decide) ?_
                    refine At.enter rfl ?_
                    refine q_iretz (by decide) ?_
                    refine At.enter rfl ?_
                    refine r_ift (by decide) ?_
                    refine At.enter rfl ?_
                    refine r_aload_n rfl ?_
                    refine r_bipush (-2) rfl ?_
                    refine r_callV 46 rfl [.ref 231, .int (-2)] [] (Nat.le_of_ble_eq_true rfl) rfl (T_X11_tell_231 _ hI283 (-2) (by decide)) ?_
                    rintro _ _ ⟨g550, rfl, hI551, hF552, v553, rfl, hr554⟩
                    refine At.sti ?_
                    have hF555 := Fr.tr hF284 hF552 rfl rfl
                    have zv556 : ((-2) : Int32).toInt = (-2) := rfl
                    refine At.enter rfl ?_
                    refine r_ireti ?_
                    obtain ⟨v557, hv557⟩ : ∃ v, eA g0 233 1 = v := ⟨_, rfl⟩
                    have tv557 := congrArg Int32.toInt hv557
                    have wv557 := HI.t1 hI0
                    rw [hv557] at wv557
                    have tv557 := congrArg Int32.toInt hv557
                    have x558 := HI.eqA hI551 (p := 233) (j := 1) ((((eA_c (hF552.2.1 233 ma_X11_tell_231_233)).trans (eA_c gA_sI)).trans hv557))
                    have x559 := HI.eqA hI551 (p := 233) (j := 0) ((((eA_c (hF552.2.1 233 ma_X11_tell_231_233)).trans (eA_c gA_sI)).trans hv546))
                    obtain ⟨v560, hv560⟩ : ∃ v, eA g0 233 4 = v := ⟨_, rfl⟩
                    have wv560 := HI.t4 hI0
                    rw [hv560] at wv560
                    have tv560 := congrArg Int32.toInt hv560
                    have x561 := HI.eqA hI551 (p := 233) (j := 4) ((((eA_c (hF552.2.1 233 ma_X11_tell_231_233)).trans (eA_c gA_sI)).trans hv560))
                    obtain ⟨v562, hv562⟩ : ∃ v, eA g0 233 5 = v := ⟨_, rfl⟩
                    have wv562 := HI.t5 hI0
                    rw [hv562] at wv562
                    have tv562 := congrArg Int32.toInt hv562
                    have x563 := HI.eqA hI551 (p := 233) (j := 5) ((((eA_c (hF552.2.1 233 ma_X11_tell_231_233)).trans (eA_c gA_sI)).trans hv562))
                    obtain ⟨v564, hv564⟩ : ∃ v, eA g0 233 6 = v := ⟨_, rfl⟩
                    have wv564 := HI.t6 hI0
                    rw [hv564] at wv564
                    have tv564 := congrArg Int32.toInt hv564
                    have x565 := HI.eqA hI551 (p := 233) (j := 6) ((((eA_c (hF552.2.1 233 ma_X11_tell_231_233)).trans (eA_c gA_sI)).trans hv564))
                    obtain ⟨v566, hv566⟩ : ∃ v, eA g0 233 2 = v := ⟨_, rfl⟩
                    have tv566 := congrArg Int32.toInt hv566
                    have wv566 := HI.t2 hI0
                    rw [hv566] at wv566
                    have tv566 := congrArg Int32.toInt hv566
                    have x567 := HI.eqA hI551 (p := 233) (j := 2) ((((eA_c (hF552.2.1 233 ma_X11_tell_231_233)).trans (eA_c gA_sI)).trans hv566))
                    obtain ⟨v568, hv568⟩ : ∃ v, eA g0 233 3 = v := ⟨_, rfl⟩
                    have wv568 := HI.t3 hI0
                    rw [hv568] at wv568
                    have tv568 := congrArg Int32.toInt hv568
                    have x569 := HI.eqA hI551 (p := 233) (j := 3) ((((eA_c (hF552.2.1 233 ma_X11_tell_231_233)).trans (eA_c gA_sI)).trans hv568))
                    have x570 := HI.eqA hI0 (p := 233) (j := 1) (hv557)
                    have x571 := HI.eqA hI0 (p := 233) (j := 0) (hv546)
                    have x572 := HI.eqA hI0 (p := 233) (j := 0) (hv546)
                    have x573 := HI.eqA hI0 (p := 233) (j := 4) (hv560)
                    have x574 := HI.eqA hI0 (p := 233) (j := 5) (hv562)
                    have x575 := HI.eqA hI0 (p := 233) (j := 6) (hv564)
                    have x576 := HI.eqA hI0 (p := 233) (j := 2) (hv566)
                    have x577 := HI.eqA hI0 (p := 233) (j := 3) (hv568)
                    obtain ⟨v578, hv578⟩ : ∃ v, gI g550 231 1 = v := ⟨_, rfl⟩
                    have tv578 := congrArg Int32.toInt hv578
                    exact ⟨_, rfl, hI551, hF555, _, rfl, by omega, ⟨⟨⟨by omega, by omega, by omega, by omega, by omega, by omega, by omega, by omega, by omega, by omega⟩, (by intro i i0 i1; refine (eA_ti (((hF552.2.1 233 ma_X11_tell_231_233).trans (gA_sI)))).trans ?_; (first | with_reducible rfl | omega | exact eA_ix (by omega) | rfl)), (by intro i i0 i1; refine (eA_ti (((hF552.2.1 233 ma_X11_tell_231_233).trans (gA_sI)))).trans ?_; (first | with_reducible rfl | omega | exact eA_ix (by omega) | rfl)), (by have kn : ¬ ((1 ≤ a1.toInt ∧ a1.toInt ≤ 9 ∧ 0 ≤ a4.toInt ∧ a4.toInt ≤ 99 ∧ 0 ≤ a5.toInt ∧ a5.toInt ≤ 9 ∧ 0 ≤ a6.toInt ∧ a6.toInt ≤ 9999) ∧ (0 ≤ a2.toInt ∧ a2.toInt < (eA g0 233 0).toInt ∧ 0 ≤ a3.toInt ∧ a3.toInt < (eA g0 233 0).toInt) ∧ (eA g0 233 1).toInt < 8) := (by omega); intro i i0 i1; refine Eq.trans ?_ (if_neg (show ¬ (((1 ≤ a1.toInt ∧ a1.toInt ≤ 9 ∧ 0 ≤ a4.toInt ∧ a4.toInt ≤ 99 ∧ 0 ≤ a5.toInt ∧ a5.toInt ≤ 9 ∧ 0 ≤ a6.toInt ∧ a6.toInt ≤ 9999) ∧ (0 ≤ a2.toInt ∧ a2.toInt < (eA g0 233 0).toInt ∧ 0 ≤ a3.toInt ∧ a3.toInt < (eA g0 233 0).toInt) ∧ (eA g0 233 1).toInt < 8) ∧ i = 46 + 6 * (eA g0 233 1).toInt + 0) from fun z => kn z.1)).symm; refine Eq.trans ?_ (if_neg (show ¬ (((1 ≤ a1.toInt ∧ a1.toInt ≤ 9 ∧ 0 ≤ a4.toInt ∧ a4.toInt ≤ 99 ∧ 0 ≤ a5.toInt ∧ a5.toInt ≤ 9 ∧ 0 ≤ a6.toInt ∧ a6.toInt ≤ 9999) ∧ (0 ≤ a2.toInt ∧ a2.toInt < (eA g0 233 0).toInt ∧ 0 ≤ a3.toInt ∧ a3.toInt < (eA g0 233 0).toInt) ∧ (eA g0 233 1).toInt < 8) ∧ i = 46 + 6 * (eA g0 233 1).toInt + 1) from fun z => kn z.1)).symm; refine Eq.trans ?_ (if_neg (show ¬ (((1 ≤ a1.toInt ∧ a1.toInt ≤ 9 ∧ 0 ≤ a4.toInt ∧ a4.toInt ≤ 99 ∧ 0 ≤ a5.toInt ∧ a5.toInt ≤ 9 ∧ 0 ≤ a6.toInt ∧ a6.toInt ≤ 9999) ∧ (0 ≤ a2.toInt ∧ a2.toInt < (eA g0 233 0).toInt ∧ 0 ≤ a3.toInt ∧ a3.toInt < (eA g0 233 0).toInt) ∧ (eA g0 233 1).toInt < 8) ∧ i = 46 + 6 * (eA g0 233 1).toInt + 2) from fun z => kn z.1)).symm; refine Eq.trans ?_ (if_neg (show ¬ (((1 ≤ a1.toInt ∧ a1.toInt ≤ 9 ∧ 0 ≤ a4.toInt ∧ a4.toInt ≤ 99 ∧ 0 ≤ a5.toInt ∧ a5.toInt ≤ 9 ∧ 0 ≤ a6.toInt ∧ a6.toInt ≤ 9999) ∧ (0 ≤ a2.toInt ∧ a2.toInt < (eA g0 233 0).toInt ∧ 0 ≤ a3.toInt ∧ a3.toInt < (eA g0 233 0).toInt) ∧ (eA g0 233 1).toInt < 8) ∧ i = 46 + 6 * (eA g0 233 1).toInt + 3) from fun z => kn z.1)).symm; refine Eq.trans ?_ (if_neg (show ¬ (((1 ≤ a1.toInt ∧ a1.toInt ≤ 9 ∧ 0 ≤ a4.toInt ∧ a4.toInt ≤ 99 ∧ 0 ≤ a5.toInt ∧ a5.toInt ≤ 9 ∧ 0 ≤ a6.toInt ∧ a6.toInt ≤ 9999) ∧ (0 ≤ a2.toInt ∧ a2.toInt < (eA g0 233 0).toInt ∧ 0 ≤ a3.toInt ∧ a3.toInt < (eA g0 233 0).toInt) ∧ (eA g0 233 1).toInt < 8) ∧ i = 46 + 6 * (eA g0 233 1).toInt + 4) from fun z => kn z.1)).symm; refine Eq.trans ?_ (if_neg (show ¬ (((1 ≤ a1.toInt ∧ a1.toInt ≤ 9 ∧ 0 ≤ a4.toInt ∧ a4.toInt ≤ 99 ∧ 0 ≤ a5.toInt ∧ a5.toInt ≤ 9 ∧ 0 ≤ a6.toInt ∧ a6.toInt ≤ 9999) ∧ (0 ≤ a2.toInt ∧ a2.toInt < (eA g0 233 0).toInt ∧ 0 ≤ a3.toInt ∧ a3.toInt < (eA g0 233 0).toInt) ∧ (eA g0 233 1).toInt < 8) ∧ i = 46 + 6 * (eA g0 233 1).toInt + 5) from fun z => kn z.1)).symm; refine (eA_ti (((hF552.2.1 233 ma_X11_tell_231_233).trans (gA_sI)))).trans ?_; (first | with_reducible rfl | omega | exact eA_ix (by omega) | rfl))⟩, (SU.mk (by omega))⟩⟩
                  · have c549_ : v545.toInt ≥ 0 := en_j_lt_f c549
                    refine At.enter rfl ?_
                    refine r_lload_n rfl ?_
                    refine r_lload rfl ?_
                    refine r_lcmp _ rfl ?_
                    refine r_ifs 13 rfl (fun c580 => ?_) (fun c580 => ?_)
                    · have c580_ : v545.toInt > v548.toInt := en_j_gt_t c580
                      refine At.enter rfl ?_
                      refine r_iconst 0 rfl ?_
                      refine Ar.fall 18 rfl ?_
                      refine At.enter rfl ?_
                      refine q_iretz (by decide) ?_
                      refine At.enter rfl ?_
                      refine q_iretz (by decide) ?_
                      refine At.enter rfl ?_
                      refine r_ift (by decide) ?_
                      refine At.enter rfl ?_
                      refine r_aload_n rfl ?_
                      refine r_bipush (-2) rfl ?_
                      refine r_callV 46 rfl [.ref 231, .int (-2)] [] (Nat.le_of_ble_eq_true rfl) rfl (T_X11_tell_231 _ hI283 (-2) (by decide)) ?_
                      rintro _ _ ⟨g581, rfl, hI582, hF583, v584, rfl, hr585⟩
                      refine At.sti ?_
                      have hF586 := Fr.tr hF284 hF583 rfl rfl
                      have zv587 : ((-2) : Int32).toInt = (-2) := rfl
                      refine At.enter rfl ?_
                      refine r_ireti ?_
                      obtain ⟨v588, hv588⟩ : ∃ v, eA g0 233 1 = v := ⟨_, rfl⟩
                      have tv588 := congrArg Int32.toInt hv588
                      have wv588 := HI.t1 hI0
                      rw [hv588] at wv588
                      have tv588 := congrArg Int32.toInt hv588
                      have x589 := HI.eqA hI582 (p := 233) (j := 1) ((((eA_c (hF583.2.1 233 ma_X11_tell_231_233)).trans (eA_c gA_sI)).trans hv588))
                      have x590 := HI.eqA hI582 (p := 233) (j := 0) ((((eA_c (hF583.2.1 233 ma_X11_tell_231_233)).trans (eA_c gA_sI)).trans hv546))
                      obtain ⟨v591, hv591⟩ : ∃ v, eA g0 233 4 = v := ⟨_, rfl⟩
                      have wv591 := HI.t4 hI0
                      rw [hv591] at wv591
                      have tv591 := congrArg Int32.toInt hv591
                      have x592 := HI.eqA hI582 (p := 233) (j := 4) ((((eA_c (hF583.2.1 233 ma_X11_tell_231_233)).trans (eA_c gA_sI)).trans hv591))
                      obtain ⟨v593, hv593⟩ : ∃ v, eA g0 233 5 = v := ⟨_, rfl⟩
                      have wv593 := HI.t5 hI0
                      rw [hv593] at wv593
                      have tv593 := congrArg Int32.toInt hv593
                      have x594 := HI.eqA hI582 (p := 233) (j := 5) ((((eA_c (hF583.2.1 233 ma_X11_tell_231_233)).trans (eA_c gA_sI)).trans hv593))
                      obtain ⟨v595, hv595⟩ : ∃ v, eA g0 233 6 = v := ⟨_, rfl⟩
                      have wv595 := HI.t6 hI0
                      rw [hv595] at wv595
                      have tv595 := congrArg Int32.toInt hv595
                      have x596 := HI.eqA hI582 (p := 233) (j := 6) ((((eA_c (hF583.2.1 233 ma_X11_tell_231_233)).trans (eA_c gA_sI)).trans hv595))
                      obtain ⟨v597, hv597⟩ : ∃ v, eA g0 233 2 = v := ⟨_, rfl⟩
                      have tv597 := congrArg Int32.toInt hv597
                      have wv597 := HI.t2 hI0
                      rw [hv597] at wv597
                      have tv597 := congrArg Int32.toInt hv597
                      have x598 := HI.eqA hI582 (p := 233) (j := 2) ((((eA_c (hF583.2.1 233 ma_X11_tell_231_233)).trans (eA_c gA_sI)).trans hv597))
                      obtain ⟨v599, hv599⟩ : ∃ v, eA g0 233 3 = v := ⟨_, rfl⟩
                      have wv599 := HI.t3 hI0
                      rw [hv599] at wv599
                      have tv599 := congrArg Int32.toInt hv599
                      have x600 := HI.eqA hI582 (p := 233) (j := 3) ((((eA_c (hF583.2.1 233 ma_X11_tell_231_233)).trans (eA_c gA_sI)).trans hv599))
                      have x601 := HI.eqA hI0 (p := 233) (j := 1) (hv588)
                      have x602 := HI.eqA hI0 (p := 233) (j := 0) (hv546)
                      have x603 := HI.eqA hI0 (p := 233) (j := 0) (hv546)
                      have x604 := HI.eqA hI0 (p := 233) (j := 4) (hv591)
                      have x605 := HI.eqA hI0 (p := 233) (j := 5) (hv593)
                      have x606 := HI.eqA hI0 (p := 233) (j := 6) (hv595)
                      have x607 := HI.eqA hI0 (p := 233) (j := 2) (hv597)
                      have x608 := HI.eqA hI0 (p := 233) (j := 3) (hv599)
                      obtain ⟨v609, hv609⟩ : ∃ v, gI g581 231 1 = v := ⟨_, rfl⟩
                      have tv609 := congrArg Int32.toInt hv609
                      exact ⟨_, rfl, hI582, hF586, _, rfl, by omega, ⟨⟨⟨by omega, by omega, by omega, by omega, by omega, by omega, by omega, by omega, by omega, by omega⟩, (by intro i i0 i1; refine (eA_ti (((hF583.2.1 233 ma_X11_tell_231_233).trans (gA_sI)))).trans ?_; (first | with_reducible rfl | omega | exact eA_ix (by omega) | rfl)), (by intro i i0 i1; refine (eA_ti (((hF583.2.1 233 ma_X11_tell_231_233).trans (gA_sI)))).trans ?_; (first | with_reducible rfl | omega | exact eA_ix (by omega) | rfl)), (by have kn : ¬ ((1 ≤ a1.toInt ∧ a1.toInt ≤ 9 ∧ 0 ≤ a4.toInt ∧ a4.toInt ≤ 99 ∧ 0 ≤ a5.toInt ∧ a5.toInt ≤ 9 ∧ 0 ≤ a6.toInt ∧ a6.toInt ≤ 9999) ∧ (0 ≤ a2.toInt ∧ a2.toInt < (eA g0 233 0).toInt ∧ 0 ≤ a3.toInt ∧ a3.toInt < (eA g0 233 0).toInt) ∧ (eA g0 233 1).toInt < 8) := (by omega); intro i i0 i1; refine Eq.trans ?_ (if_neg (show ¬ (((1 ≤ a1.toInt ∧ a1.toInt ≤ 9 ∧ 0 ≤ a4.toInt ∧ a4.toInt ≤ 99 ∧ 0 ≤ a5.toInt ∧ a5.toInt ≤ 9 ∧ 0 ≤ a6.toInt ∧ a6.toInt ≤ 9999) ∧ (0 ≤ a2.toInt ∧ a2.toInt < (eA g0 233 0).toInt ∧ 0 ≤ a3.toInt ∧ a3.toInt < (eA g0 233 0).toInt) ∧ (eA g0 233 1).toInt < 8) ∧ i = 46 + 6 * (eA g0 233 1).toInt + 0) from fun z => kn z.1)).symm; refine Eq.trans ?_ (if_neg (show ¬ (((1 ≤ a1.toInt ∧ a1.toInt ≤ 9 ∧ 0 ≤ a4.toInt ∧ a4.toInt ≤ 99 ∧ 0 ≤ a5.toInt ∧ a5.toInt ≤ 9 ∧ 0 ≤ a6.toInt ∧ a6.toInt ≤ 9999) ∧ (0 ≤ a2.toInt ∧ a2.toInt < (eA g0 233 0).toInt ∧ 0 ≤ a3.toInt ∧ a3.toInt < (eA g0 233 0).toInt) ∧ (eA g0 233 1).toInt < 8) ∧ i = 46 + 6 * (eA g0 233 1).toInt + 1) from fun z => kn z.1)).symm; refine Eq.trans ?_ (if_neg (show ¬ (((1 ≤ a1.toInt ∧ a1.toInt ≤ 9 ∧ 0 ≤ a4.toInt ∧ a4.toInt ≤ 99 ∧ 0 ≤ a5.toInt ∧ a5.toInt ≤ 9 ∧ 0 ≤ a6.toInt ∧ a6.toInt ≤ 9999) ∧ (0 ≤ a2.toInt ∧ a2.toInt < (eA g0 233 0).toInt ∧ 0 ≤ a3.toInt ∧ a3.toInt < (eA g0 233 0).toInt) ∧ (eA g0 233 1).toInt < 8) ∧ i = 46 + 6 * (eA g0 233 1).toInt + 2) from fun z => kn z.1)).symm; refine Eq.trans ?_ (if_neg (show ¬ (((1 ≤ a1.toInt ∧ a1.toInt ≤ 9 ∧ 0 ≤ a4.toInt ∧ a4.toInt ≤ 99 ∧ 0 ≤ a5.toInt ∧ a5.toInt ≤ 9 ∧ 0 ≤ a6.toInt ∧ a6.toInt ≤ 9999) ∧ (0 ≤ a2.toInt ∧ a2.toInt < (eA g0 233 0).toInt ∧ 0 ≤ a3.toInt ∧ a3.toInt < (eA g0 233 0).toInt) ∧ (eA g0 233 1).toInt < 8) ∧ i = 46 + 6 * (eA g0 233 1).toInt + 3) from fun z => kn z.1)).symm; refine Eq.trans ?_ (if_neg (show ¬ (((1 ≤ a1.toInt ∧ a1.toInt ≤ 9 ∧ 0 ≤ a4.toInt ∧ a4.toInt ≤ 99 ∧ 0 ≤ a5.toInt ∧ a5.toInt ≤ 9 ∧ 0 ≤ a6.toInt ∧ a6.toInt ≤ 9999) ∧ (0 ≤ a2.toInt ∧ a2.toInt < (eA g0 233 0).toInt ∧ 0 ≤ a3.toInt ∧ a3.toInt < (eA g0 233 0).toInt) ∧ (eA g0 233 1).toInt < 8) ∧ i = 46 + 6 * (eA g0 233 1).toInt + 4) from fun z => kn z.1)).symm; refine Eq.trans ?_ (if_neg (show ¬ (((1 ≤ a1.toInt ∧ a1.toInt ≤ 9 ∧ 0 ≤ a4.toInt ∧ a4.toInt ≤ 99 ∧ 0 ≤ a5.toInt ∧ a5.toInt ≤ 9 ∧ 0 ≤ a6.toInt ∧ a6.toInt ≤ 9999) ∧ (0 ≤ a2.toInt ∧ a2.toInt < (eA g0 233 0).toInt ∧ 0 ≤ a3.toInt ∧ a3.toInt < (eA g0 233 0).toInt) ∧ (eA g0 233 1).toInt < 8) ∧ i = 46 + 6 * (eA g0 233 1).toInt + 5) from fun z => kn z.1)).symm; refine (eA_ti (((hF583.2.1 233 ma_X11_tell_231_233).trans (gA_sI)))).trans ?_; (first | with_reducible rfl | omega | exact eA_ix (by omega) | rfl))⟩, (SU.mk (by omega))⟩⟩
                    · have c580_ : v545.toInt ≤ v548.toInt := en_j_gt_f c580
                      refine At.enter rfl ?_
                      refine r_iconst 1 rfl ?_
                      refine r_goto ?_
                      refine At.enter rfl ?_
                      refine q_iretz (by decide) ?_
                      refine At.enter rfl ?_
                      refine q_iretz (by decide) ?_
                      refine At.enter rfl ?_
                      refine r_iff 32 rfl (by decide) ?_
                      refine At.enter rfl ?_
                      refine r_aload_n rfl ?_
                      refine r_iload_n rfl ?_
                      refine q_inlV 37 rfl [.ref 231, .int a3] [] (Nat.le_of_ble_eq_true rfl) rfl ?_
                      refine Ev.mk rfl rfl ⟨Nat.le_of_ble_eq_true rfl, Or.inr (q_rc hI283.1 kx_231 rfl)⟩ ?_
                      show At _ none _ _ (0, [(0, .ref 231), (1, .int a3)], [], (_, _)) _
                      refine At.enter rfl ?_
                      refine r_iload_n rfl ?_
                      refine q_i2l (fun v611 hv611 => ?_)
                      refine r_lconst 0 rfl ?_
                      refine r_aload_n rfl ?_
                      refine q_getR (Sh.ref hI283.1 kx_231 rfl) ?_
                      refine r_iconst 0 rfl ?_
                      refine q_iald (Sh.arr hI283.1 ka_233) 0 rfl (by decide) v546 ((eA_c (gA_sI)).trans hv546) ?_
                      refine q_i2l (fun v612 hv612 => ?_)
                      refine r_lconst 1 rfl ?_
                      refine q_lsub (v612.toInt - 1) rfl (by omega) (fun v613 hv613 => ?_)
                      refine q_inlS 15 rfl [.long v611, .long 0, .long v613] [] (Nat.le_of_ble_eq_true rfl) rfl ?_
                      refine Ev.mk rfl rfl ⟨Nat.le_of_ble_eq_true rfl, Or.inl rfl⟩ ?_
                      show At _ none _ _ (0, [(0, .long v611), (2, .long 0), (4, .long v613)], [], (_, _)) _
                      refine At.enter rfl ?_
                      refine r_lload_n rfl ?_
                      refine r_lload_n rfl ?_
                      refine r_lcmp _ rfl ?_
                      refine r_ifs 6 rfl (fun c614 => ?_) (fun c614 => ?_)
                      · have c614_ : v611.toInt < 0 := en_j_lt_t c614
                        refine At.enter rfl ?_
                        refine r_iconst 0 rfl ?_
                        refine Ar.fall 18 rfl ?_
                        refine At.enter rfl ?_
                        refine q_iretz (by decide) ?_
                        refine At.enter rfl ?_
                        refine q_iretz (by decide) ?_
                        refine At.enter rfl ?_
                        refine r_iff 40 rfl (by decide) ?_
                        refine At.enter rfl ?_
                        refine r_aload_n rfl ?_
                        refine r_bipush (-2) rfl ?_
                        refine r_callV 46 rfl [.ref 231, .int (-2)] [] (Nat.le_of_ble_eq_true rfl) rfl (T_X11_tell_231 _ hI283 (-2) (by decide)) ?_
                        rintro _ _ ⟨g615, rfl, hI616, hF617, v618, rfl, hr619⟩
                        refine At.sti ?_
                        have hF620 := Fr.tr hF284 hF617 rfl rfl
                        have zv621 : ((-2) : Int32).toInt = (-2) := rfl
                        refine At.enter rfl ?_
                        refine r_ireti ?_
                        obtain ⟨v622, hv622⟩ : ∃ v, eA g0 233 1 = v := ⟨_, rfl⟩
                        have tv622 := congrArg Int32.toInt hv622
                        have wv622 := HI.t1 hI0
                        rw [hv622] at wv622
                        have tv622 := congrArg Int32.toInt hv622
                        have x623 := HI.eqA hI616 (p := 233) (j := 1) ((((eA_c (hF617.2.1 233 ma_X11_tell_231_233)).trans (eA_c gA_sI)).trans hv622))
                        have x624 := HI.eqA hI616 (p := 233) (j := 0) ((((eA_c (hF617.2.1 233 ma_X11_tell_231_233)).trans (eA_c gA_sI)).trans hv546))
                        obtain ⟨v625, hv625⟩ : ∃ v, eA g0 233 4 = v := ⟨_, rfl⟩
                        have wv625 := HI.t4 hI0
                        rw [hv625] at wv625
                        have tv625 := congrArg Int32.toInt hv625
                        have x626 := HI.eqA hI616 (p := 233) (j := 4) ((((eA_c (hF617.2.1 233 ma_X11_tell_231_233)).trans (eA_c gA_sI)).trans hv625))
                        obtain ⟨v627, hv627⟩ : ∃ v, eA g0 233 5 = v := ⟨_, rfl⟩
                        have wv627 := HI.t5 hI0
                        rw [hv627] at wv627
                        have tv627 := congrArg Int32.toInt hv627
                        have x628 := HI.eqA hI616 (p := 233) (j := 5) ((((eA_c (hF617.2.1 233 ma_X11_tell_231_233)).trans (eA_c gA_sI)).trans hv627))
                        obtain ⟨v629, hv629⟩ : ∃ v, eA g0 233 6 = v := ⟨_, rfl⟩
                        have wv629 := HI.t6 hI0
                        rw [hv629] at wv629
                        have tv629 := congrArg Int32.toInt hv629
                        have x630 := HI.eqA hI616 (p := 233) (j := 6) ((((eA_c (hF617.2.1 233 ma_X11_tell_231_233)).trans (eA_c gA_sI)).trans hv629))
                        obtain ⟨v631, hv631⟩ : ∃ v, eA g0 233 2 = v := ⟨_, rfl⟩
                        have tv631 := congrArg Int32.toInt hv631
                        have wv631 := HI.t2 hI0
                        rw [hv631] at wv631
                        have tv631 := congrArg Int32.toInt hv631
                        have x632 := HI.eqA hI616 (p := 233) (j := 2) ((((eA_c (hF617.2.1 233 ma_X11_tell_231_233)).trans (eA_c gA_sI)).trans hv631))
                        obtain ⟨v633, hv633⟩ : ∃ v, eA g0 233 3 = v := ⟨_, rfl⟩
                        have wv633 := HI.t3 hI0
                        rw [hv633] at wv633
                        have tv633 := congrArg Int32.toInt hv633
                        have x634 := HI.eqA hI616 (p := 233) (j := 3) ((((eA_c (hF617.2.1 233 ma_X11_tell_231_233)).trans (eA_c gA_sI)).trans hv633))
                        have x635 := HI.eqA hI0 (p := 233) (j := 1) (hv622)
                        have x636 := HI.eqA hI0 (p := 233) (j := 0) (hv546)
                        have x637 := HI.eqA hI0 (p := 233) (j := 0) (hv546)
                        have x638 := HI.eqA hI0 (p := 233) (j := 4) (hv625)
                        have x639 := HI.eqA hI0 (p := 233) (j := 5) (hv627)
                        have x640 := HI.eqA hI0 (p := 233) (j := 6) (hv629)
                        have x641 := HI.eqA hI0 (p := 233) (j := 2) (hv631)
                        have x642 := HI.eqA hI0 (p := 233) (j := 3) (hv633)
                        obtain ⟨v643, hv643⟩ : ∃ v, gI g615 231 1 = v := ⟨_, rfl⟩
                        have tv643 := congrArg Int32.toInt hv643
                        exact ⟨_, rfl, hI616, hF620, _, rfl, by omega, ⟨⟨⟨by omega, by omega, by omega, by omega, by omega, by omega, by omega, by omega, by omega, by omega⟩, (by intro i i0 i1; refine (eA_ti (((hF617.2.1 233 ma_X11_tell_231_233).trans (gA_sI)))).trans ?_; (first | with_reducible rfl | omega | exact eA_ix (by omega) | rfl)), (by intro i i0 i1; refine (eA_ti (((hF617.2.1 233 ma_X11_tell_231_233).trans (gA_sI)))).trans ?_; (first | with_reducible rfl | omega | exact eA_ix (by omega) | rfl)), (by have kn : ¬ ((1 ≤ a1.toInt ∧ a1.toInt ≤ 9 ∧ 0 ≤ a4.toInt ∧ a4.toInt ≤ 99 ∧ 0 ≤ a5.toInt ∧ a5.toInt ≤ 9 ∧ 0 ≤ a6.toInt ∧ a6.toInt ≤ 9999) ∧ (0 ≤ a2.toInt ∧ a2.toInt < (eA g0 233 0).toInt ∧ 0 ≤ a3.toInt ∧ a3.toInt < (eA g0 233 0).toInt) ∧ (eA g0 233 1).toInt < 8) := (by omega); intro i i0 i1; refine Eq.trans ?_ (if_neg (show ¬ (((1 ≤ a1.toInt ∧ a1.toInt ≤ 9 ∧ 0 ≤ a4.toInt ∧ a4.toInt ≤ 99 ∧ 0 ≤ a5.toInt ∧ a5.toInt ≤ 9 ∧ 0 ≤ a6.toInt ∧ a6.toInt ≤ 9999) ∧ (0 ≤ a2.toInt ∧ a2.toInt < (eA g0 233 0).toInt ∧ 0 ≤ a3.toInt ∧ a3.toInt < (eA g0 233 0).toInt) ∧ (eA g0 233 1).toInt < 8) ∧ i = 46 + 6 * (eA g0 233 1).toInt + 0) from fun z => kn z.1)).symm; refine Eq.trans ?_ (if_neg (show ¬ (((1 ≤ a1.toInt ∧ a1.toInt ≤ 9 ∧ 0 ≤ a4.toInt ∧ a4.toInt ≤ 99 ∧ 0 ≤ a5.toInt ∧ a5.toInt ≤ 9 ∧ 0 ≤ a6.toInt ∧ a6.toInt ≤ 9999) ∧ (0 ≤ a2.toInt ∧ a2.toInt < (eA g0 233 0).toInt ∧ 0 ≤ a3.toInt ∧ a3.toInt < (eA g0 233 0).toInt) ∧ (eA g0 233 1).toInt < 8) ∧ i = 46 + 6 * (eA g0 233 1).toInt + 1) from fun z => kn z.1)).symm; refine Eq.trans ?_ (if_neg (show ¬ (((1 ≤ a1.toInt ∧ a1.toInt ≤ 9 ∧ 0 ≤ a4.toInt ∧ a4.toInt ≤ 99 ∧ 0 ≤ a5.toInt ∧ a5.toInt ≤ 9 ∧ 0 ≤ a6.toInt ∧ a6.toInt ≤ 9999) ∧ (0 ≤ a2.toInt ∧ a2.toInt < (eA g0 233 0).toInt ∧ 0 ≤ a3.toInt ∧ a3.toInt < (eA g0 233 0).toInt) ∧ (eA g0 233 1).toInt < 8) ∧ i = 46 + 6 * (eA g0 233 1).toInt + 2) from fun z => kn z.1)).symm; refine Eq.trans ?_ (if_neg (show ¬ (((1 ≤ a1.toInt ∧ a1.toInt ≤ 9 ∧ 0 ≤ a4.toInt ∧ a4.toInt ≤ 99 ∧ 0 ≤ a5.toInt ∧ a5.toInt ≤ 9 ∧ 0 ≤ a6.toInt ∧ a6.toInt ≤ 9999) ∧ (0 ≤ a2.toInt ∧ a2.toInt < (eA g0 233 0).toInt ∧ 0 ≤ a3.toInt ∧ a3.toInt < (eA g0 233 0).toInt) ∧ (eA g0 233 1).toInt < 8) ∧ i = 46 + 6 * (eA g0 233 1).toInt + 3) from fun z => kn z.1)).symm; refine Eq.trans ?_ (if_neg (show ¬ (((1 ≤ a1.toInt ∧ a1.toInt ≤ 9 ∧ 0 ≤ a4.toInt ∧ a4.toInt ≤ 99 ∧ 0 ≤ a5.toInt ∧ a5.toInt ≤ 9 ∧ 0 ≤ a6.toInt ∧ a6.toInt ≤ 9999) ∧ (0 ≤ a2.toInt ∧ a2.toInt < (eA g0 233 0).toInt ∧ 0 ≤ a3.toInt ∧ a3.toInt < (eA g0 233 0).toInt) ∧ (eA g0 233 1).toInt < 8) ∧ i = 46 + 6 * (eA g0 233 1).toInt + 4) from fun z => kn z.1)).symm; refine Eq.trans ?_ (if_neg (show ¬ (((1 ≤ a1.toInt ∧ a1.toInt ≤ 9 ∧ 0 ≤ a4.toInt ∧ a4.toInt ≤ 99 ∧ 0 ≤ a5.toInt ∧ a5.toInt ≤ 9 ∧ 0 ≤ a6.toInt ∧ a6.toInt ≤ 9999) ∧ (0 ≤ a2.toInt ∧ a2.toInt < (eA g0 233 0).toInt ∧ 0 ≤ a3.toInt ∧ a3.toInt < (eA g0 233 0).toInt) ∧ (eA g0 233 1).toInt < 8) ∧ i = 46 + 6 * (eA g0 233 1).toInt + 5) from fun z => kn z.1)).symm; refine (eA_ti (((hF617.2.1 233 ma_X11_tell_231_233).trans (gA_sI)))).trans ?_; (first | with_reducible rfl | omega | exact eA_ix (by omega) | rfl))⟩, (SU.mk (by omega))⟩⟩
                      · have c614_ : v611.toInt ≥ 0 := en_j_lt_f c614
                        refine At.enter rfl ?_
                        refine r_lload_n rfl ?_
                        refine r_lload rfl ?_
                        refine r_lcmp _ rfl ?_
                        refine r_ifs 13 rfl (fun c645 => ?_) (fun c645 => ?_)
                        · have c645_ : v611.toInt > v613.toInt := en_j_gt_t c645
                          refine At.enter rfl ?_
                          refine r_iconst 0 rfl ?_
                          refine Ar.fall 18 rfl ?_
                          refine At.enter rfl ?_
                          refine q_iretz (by decide) ?_
                          refine At.enter rfl ?_
                          refine q_iretz (by decide) ?_
                          refine At.enter rfl ?_
                          refine r_iff 40 rfl (by decide) ?_
                          refine At.enter rfl ?_
                          refine r_aload_n rfl ?_
                          refine r_bipush (-2) rfl ?_
                          refine r_callV 46 rfl [.ref 231, .int (-2)] [] (Nat.le_of_ble_eq_true rfl) rfl (T_X11_tell_231 _ hI283 (-2) (by decide)) ?_
                          rintro _ _ ⟨g646, rfl, hI647, hF648, v649, rfl, hr650⟩
                          refine At.sti ?_
                          have hF651 := Fr.tr hF284 hF648 rfl rfl
                          have zv652 : ((-2) : Int32).toInt = (-2) := rfl
                          refine At.enter rfl ?_
                          refine r_ireti ?_
                          obtain ⟨v653, hv653⟩ : ∃ v, eA g0 233 1 = v := ⟨_, rfl⟩
                          have tv653 := congrArg Int32.toInt hv653
                          have wv653 := HI.t1 hI0
                          rw [hv653] at wv653
                          have tv653 := congrArg Int32.toInt hv653
                          have x654 := HI.eqA hI647 (p := 233) (j := 1) ((((eA_c (hF648.2.1 233 ma_X11_tell_231_233)).trans (eA_c gA_sI)).trans hv653))
                          have x655 := HI.eqA hI647 (p := 233) (j := 0) ((((eA_c (hF648.2.1 233 ma_X11_tell_231_233)).trans (eA_c gA_sI)).trans hv546))
                          obtain ⟨v656, hv656⟩ : ∃ v, eA g0 233 4 = v := ⟨_, rfl⟩
                          have wv656 := HI.t4 hI0
                          rw [hv656] at wv656
                          have tv656 := congrArg Int32.toInt hv656
                          have x657 := HI.eqA hI647 (p := 233) (j := 4) ((((eA_c (hF648.2.1 233 ma_X11_tell_231_233)).trans (eA_c gA_sI)).trans hv656))
                          obtain ⟨v658, hv658⟩ : ∃ v, eA g0 233 5 = v := ⟨_, rfl⟩
                          have wv658 := HI.t5 hI0
                          rw [hv658] at wv658
                          have tv658 := congrArg Int32.toInt hv658
                          have x659 := HI.eqA hI647 (p := 233) (j := 5) ((((eA_c (hF648.2.1 233 ma_X11_tell_231_233)).trans (eA_c gA_sI)).trans hv658))
                          obtain ⟨v660, hv660⟩ : ∃ v, eA g0 233 6 = v := ⟨_, rfl⟩
                          have wv660 := HI.t6 hI0
                          rw [hv660] at wv660
                          have tv660 := congrArg Int32.toInt hv660
                          have x661 := HI.eqA hI647 (p := 233) (j := 6) ((((eA_c (hF648.2.1 233 ma_X11_tell_231_233)).trans (eA_c gA_sI)).trans hv660))
                          obtain ⟨v662, hv662⟩ : ∃ v, eA g0 233 2 = v := ⟨_, rfl⟩
                          have tv662 := congrArg Int32.toInt hv662
                          have wv662 := HI.t2 hI0
                          rw [hv662] at wv662
                          have tv662 := congrArg Int32.toInt hv662
                          have x663 := HI.eqA hI647 (p := 233) (j := 2) ((((eA_c (hF648.2.1 233 ma_X11_tell_231_233)).trans (eA_c gA_sI)).trans hv662))
                          obtain ⟨v664, hv664⟩ : ∃ v, eA g0 233 3 = v := ⟨_, rfl⟩
                          have wv664 := HI.t3 hI0
                          rw [hv664] at wv664
                          have tv664 := congrArg Int32.toInt hv664
                          have x665 := HI.eqA hI647 (p := 233) (j := 3) ((((eA_c (hF648.2.1 233 ma_X11_tell_231_233)).trans (eA_c gA_sI)).trans hv664))
                          have x666 := HI.eqA hI0 (p := 233) (j := 1) (hv653)
                          have x667 := HI.eqA hI0 (p := 233) (j := 0) (hv546)
                          have x668 := HI.eqA hI0 (p := 233) (j := 0) (hv546)
                          have x669 := HI.eqA hI0 (p := 233) (j := 4) (hv656)
                          have x670 := HI.eqA hI0 (p := 233) (j := 5) (hv658)
                          have x671 := HI.eqA hI0 (p := 233) (j := 6) (hv660)
                          have x672 := HI.eqA hI0 (p := 233) (j := 2) (hv662)
                          have x673 := HI.eqA hI0 (p := 233) (j := 3) (hv664)
                          obtain ⟨v674, hv674⟩ : ∃ v, gI g646 231 1 = v := ⟨_, rfl⟩
                          have tv674 := congrArg Int32.toInt hv674
                          exact ⟨_, rfl, hI647, hF651, _, rfl, by omega, ⟨⟨⟨by omega, by omega, by omega, by omega, by omega, by omega, by omega, by omega, by omega, by omega⟩, (by intro i i0 i1; refine (eA_ti (((hF648.2.1 233 ma_X11_tell_231_233).trans (gA_sI)))).trans ?_; (first | with_reducible rfl | omega | exact eA_ix (by omega) | rfl)), (by intro i i0 i1; refine (eA_ti (((hF648.2.1 233 ma_X11_tell_231_233).trans (gA_sI)))).trans ?_; (first | with_reducible rfl | omega | exact eA_ix (by omega) | rfl)), (by have kn : ¬ ((1 ≤ a1.toInt ∧ a1.toInt ≤ 9 ∧ 0 ≤ a4.toInt ∧ a4.toInt ≤ 99 ∧ 0 ≤ a5.toInt ∧ a5.toInt ≤ 9 ∧ 0 ≤ a6.toInt ∧ a6.toInt ≤ 9999) ∧ (0 ≤ a2.toInt ∧ a2.toInt < (eA g0 233 0).toInt ∧ 0 ≤ a3.toInt ∧ a3.toInt < (eA g0 233 0).toInt) ∧ (eA g0 233 1).toInt < 8) := (by omega); intro i i0 i1; refine Eq.trans ?_ (if_neg (show ¬ (((1 ≤ a1.toInt ∧ a1.toInt ≤ 9 ∧ 0 ≤ a4.toInt ∧ a4.toInt ≤ 99 ∧ 0 ≤ a5.toInt ∧ a5.toInt ≤ 9 ∧ 0 ≤ a6.toInt ∧ a6.toInt ≤ 9999) ∧ (0 ≤ a2.toInt ∧ a2.toInt < (eA g0 233 0).toInt ∧ 0 ≤ a3.toInt ∧ a3.toInt < (eA g0 233 0).toInt) ∧ (eA g0 233 1).toInt < 8) ∧ i = 46 + 6 * (eA g0 233 1).toInt + 0) from fun z => kn z.1)).symm; refine Eq.trans ?_ (if_neg (show ¬ (((1 ≤ a1.toInt ∧ a1.toInt ≤ 9 ∧ 0 ≤ a4.toInt ∧ a4.toInt ≤ 99 ∧ 0 ≤ a5.toInt ∧ a5.toInt ≤ 9 ∧ 0 ≤ a6.toInt ∧ a6.toInt ≤ 9999) ∧ (0 ≤ a2.toInt ∧ a2.toInt < (eA g0 233 0).toInt ∧ 0 ≤ a3.toInt ∧ a3.toInt < (eA g0 233 0).toInt) ∧ (eA g0 233 1).toInt < 8) ∧ i = 46 + 6 * (eA g0 233 1).toInt + 1) from fun z => kn z.1)).symm; refine Eq.trans ?_ (if_neg (show ¬ (((1 ≤ a1.toInt ∧ a1.toInt ≤ 9 ∧ 0 ≤ a4.toInt ∧ a4.toInt ≤ 99 ∧ 0 ≤ a5.toInt ∧ a5.toInt ≤ 9 ∧ 0 ≤ a6.toInt ∧ a6.toInt ≤ 9999) ∧ (0 ≤ a2.toInt ∧ a2.toInt < (eA g0 233 0).toInt ∧ 0 ≤ a3.toInt ∧ a3.toInt < (eA g0 233 0).toInt) ∧ (eA g0 233 1).toInt < 8) ∧ i = 46 + 6 * (eA g0 233 1).toInt + 2) from fun z => kn z.1)).symm; refine Eq.trans ?_ (if_neg (show ¬ (((1 ≤ a1.toInt ∧ a1.toInt ≤ 9 ∧ 0 ≤ a4.toInt ∧ a4.toInt ≤ 99 ∧ 0 ≤ a5.toInt ∧ a5.toInt ≤ 9 ∧ 0 ≤ a6.toInt ∧ a6.toInt ≤ 9999) ∧ (0 ≤ a2.toInt ∧ a2.toInt < (eA g0 233 0).toInt ∧ 0 ≤ a3.toInt ∧ a3.toInt < (eA g0 233 0).toInt) ∧ (eA g0 233 1).toInt < 8) ∧ i = 46 + 6 * (eA g0 233 1).toInt + 3) from fun z => kn z.1)).symm; refine Eq.trans ?_ (if_neg (show ¬ (((1 ≤ a1.toInt ∧ a1.toInt ≤ 9 ∧ 0 ≤ a4.toInt ∧ a4.toInt ≤ 99 ∧ 0 ≤ a5.toInt ∧ a5.toInt ≤ 9 ∧ 0 ≤ a6.toInt ∧ a6.toInt ≤ 9999) ∧ (0 ≤ a2.toInt ∧ a2.toInt < (eA g0 233 0).toInt ∧ 0 ≤ a3.toInt ∧ a3.toInt < (eA g0 233 0).toInt) ∧ (eA g0 233 1).toInt < 8) ∧ i = 46 + 6 * (eA g0 233 1).toInt + 4) from fun z => kn z.1)).symm; refine Eq.trans ?_ (if_neg (show ¬ (((1 ≤ a1.toInt ∧ a1.toInt ≤ 9 ∧ 0 ≤ a4.toInt ∧ a4.toInt ≤ 99 ∧ 0 ≤ a5.toInt ∧ a5.toInt ≤ 9 ∧ 0 ≤ a6.toInt ∧ a6.toInt ≤ 9999) ∧ (0 ≤ a2.toInt ∧ a2.toInt < (eA g0 233 0).toInt ∧ 0 ≤ a3.toInt ∧ a3.toInt < (eA g0 233 0).toInt) ∧ (eA g0 233 1).toInt < 8) ∧ i = 46 + 6 * (eA g0 233 1).toInt + 5) from fun z => kn z.1)).symm; refine (eA_ti (((hF648.2.1 233 ma_X11_tell_231_233).trans (gA_sI)))).trans ?_; (first | with_reducible rfl | omega | exact eA_ix (by omega) | rfl))⟩, (SU.mk (by omega))⟩⟩
                        · have c645_ : v611.toInt ≤ v613.toInt := en_j_gt_f c645
                          refine At.enter rfl ?_
                          refine r_iconst 1 rfl ?_
                          refine r_goto ?_
                          refine At.enter rfl ?_
                          refine q_iretz (by decide) ?_
                          refine At.enter rfl ?_
                          refine q_iretz (by decide) ?_
                          refine At.enter rfl ?_
                          refine r_ift (by decide) ?_
                          refine At.enter rfl ?_
                          refine r_aload_n rfl ?_
                          refine q_getR (Sh.ref hI283.1 kx_231 rfl) ?_
                          refine r_iconst 1 rfl ?_
                          obtain ⟨v676, hv676⟩ : ∃ v, eA g0 233 1 = v := ⟨_, rfl⟩
                          have tv676 := congrArg Int32.toInt hv676
                          have wv676 := HI.t1 hI0
                          rw [hv676] at wv676
                          refine q_iald (Sh.arr hI283.1 ka_233) 1 rfl (by decide) v676 ((eA_c (gA_sI)).trans hv676) ?_
                          refine r_bipush 8 rfl ?_
                          refine r_ics 58 rfl (fun c677 => ?_) (fun c677 => ?_)
                          · have c677_ : v676.toInt ≠ 8 := en_i_ne_t c677
                            refine At.enter rfl ?_
                            refine r_aload_n rfl ?_
                            refine r_iload_n rfl ?_
                            refine r_iload_n rfl ?_
                            refine r_iload_n rfl ?_
                            refine r_iload rfl ?_
                            refine r_iload rfl ?_
                            refine r_iload rfl ?_
                            have x678 := HI.eqA hI283 (p := 233) (j := 0) (((eA_c gA_sI).trans hv546))
                            have x679 := HI.eqA hI283 (p := 233) (j := 1) (((eA_c gA_sI).trans hv676))
                            refine r_callV 78 rfl [.ref 231, .int a1, .int a2, .int a3, .int a4, .int a5, .int a6] [] (Nat.le_of_ble_eq_true rfl) rfl (T_X11_addLoad_231 _ hI283 a1 (by omega) a2 (by omega) a3 (by omega) a4 (by omega) a5 (by omega) a6 (by omega) (by omega) (by omega) (by omega)) ?_
                            rintro _ _ ⟨g680, rfl, hI681, hF682, rfl, hr684⟩
                            refine At.stn ?_
                            have hF685 := Fr.tr hF284 hF682 rfl rfl
                            obtain ⟨v686, hv686⟩ : ∃ v, eA g0 233 2 = v := ⟨_, rfl⟩
                            have tv686 := congrArg Int32.toInt hv686
                            have wv686 := HI.t2 hI0
                            rw [hv686] at wv686
                            have tv686 := congrArg Int32.toInt hv686
                            obtain ⟨v687, hv687⟩ : ∃ v, eA g0 233 4 = v := ⟨_, rfl⟩
                            have wv687 := HI.t4 hI0
                            rw [hv687] at wv687
                            have tv687 := congrArg Int32.toInt hv687
                            obtain ⟨v688, hv688⟩ : ∃ v, eA g0 233 5 = v := ⟨_, rfl⟩
                            have wv688 := HI.t5 hI0
                            rw [hv688] at wv688
                            have tv688 := congrArg Int32.toInt hv688
                            obtain ⟨v689, hv689⟩ : ∃ v, eA g0 233 6 = v := ⟨_, rfl⟩
                            have wv689 := HI.t6 hI0
                            rw [hv689] at wv689
                            have tv689 := congrArg Int32.toInt hv689
                            obtain ⟨v690, hv690⟩ : ∃ v, eA g0 233 3 = v := ⟨_, rfl⟩
                            have wv690 := HI.t3 hI0
                            rw [hv690] at wv690
                            have tv690 := congrArg Int32.toInt hv690
                            obtain ⟨v691, hv691⟩ : ∃ v, eA g680 233 1 = v := ⟨_, rfl⟩
                            have y692 := hr684.2.1
                            have tv691 := congrArg Int32.toInt hv691
                            have x693 := HI.eqA hI283 (p := 233) (j := 1) (((eA_c gA_sI).trans hv676))
                            have fq694 := hr684.2.2.2
                            rw [show (eA _ 233 1).toInt = (eA g0 233 1).toInt from eA_ti (j := 1) ((gA_sI))] at fq694
                            have lw_v691 := fun i h0 h1 => congrArg Int32.toInt (hr684.1 i (Int.le_trans (by decide) h0) h1 (fun e => absurd (e ▸ h0 : (10 : Int) ≤ 1) (by decide)))
                            refine At.enter rfl ?_
                            refine r_aload_n rfl ?_
                            refine r_aload_n rfl ?_
                            refine q_getR (Sh.ref hI681.1 kx_231 rfl) ?_
                            refine r_iconst 1 rfl ?_
                            refine q_iald (Sh.arr hI681.1 ka_233) 1 rfl (by decide) v691 hv691 ?_
                            refine r_iconst 1 rfl ?_
                            refine q_isub (v691.toInt - 1) rfl (by omega) (fun v695 hv695 => ?_)
                            refine r_callV 90 rfl [.ref 231, .int v695] [] (Nat.le_of_ble_eq_true rfl) rfl (T_X11_tell_231 _ hI681 v695 (by omega)) ?_
                            rintro _ _ ⟨g696, rfl, hI697, hF698, v699, rfl, hr700⟩
                            refine At.sti ?_
                            have hF701 := Fr.tr hF685 hF698 rfl rfl
                            refine At.enter rfl ?_
                            refine r_ireti ?_
                            have x702 := HI.eqA hI697 (p := 233) (j := 1) (((eA_c (hF698.2.1 233 ma_X11_tell_231_233)).trans hv691))
                            have x703 := HI.eqA hI697 (p := 233) (j := 0) (((eA_c (hF698.2.1 233 ma_X11_tell_231_233)).trans ((hr684.1 0 (by decide) (by decide) (by decide)).trans ((eA_c gA_sI).trans hv546))))
                            have x704 := HI.eqA hI697 (p := 233) (j := 4) (((eA_c (hF698.2.1 233 ma_X11_tell_231_233)).trans ((hr684.1 4 (by decide) (by decide) (by decide)).trans ((eA_c gA_sI).trans hv687))))
                            have x705 := HI.eqA hI697 (p := 233) (j := 5) (((eA_c (hF698.2.1 233 ma_X11_tell_231_233)).trans ((hr684.1 5 (by decide) (by decide) (by decide)).trans ((eA_c gA_sI).trans hv688))))
                            have x706 := HI.eqA hI697 (p := 233) (j := 6) (((eA_c (hF698.2.1 233 ma_X11_tell_231_233)).trans ((hr684.1 6 (by decide) (by decide) (by decide)).trans ((eA_c gA_sI).trans hv689))))
                            have x707 := HI.eqA hI697 (p := 233) (j := 2) (((eA_c (hF698.2.1 233 ma_X11_tell_231_233)).trans ((hr684.1 2 (by decide) (by decide) (by decide)).trans ((eA_c gA_sI).trans hv686))))
                            have x708 := HI.eqA hI697 (p := 233) (j := 3) (((eA_c (hF698.2.1 233 ma_X11_tell_231_233)).trans ((hr684.1 3 (by decide) (by decide) (by decide)).trans ((eA_c gA_sI).trans hv690))))
                            have x709 := HI.eqA hI0 (p := 233) (j := 1) (hv676)
                            have x710 := HI.eqA hI0 (p := 233) (j := 0) (hv546)
                            have x711 := HI.eqA hI0 (p := 233) (j := 0) (hv546)
                            have x712 := HI.eqA hI0 (p := 233) (j := 4) (hv687)
                            have x713 := HI.eqA hI0 (p := 233) (j := 5) (hv688)
                            have x714 := HI.eqA hI0 (p := 233) (j := 6) (hv689)
                            have x715 := HI.eqA hI0 (p := 233) (j := 2) (hv686)
                            have x716 := HI.eqA hI0 (p := 233) (j := 3) (hv690)
                            obtain ⟨v717, hv717⟩ : ∃ v, gI g696 231 1 = v := ⟨_, rfl⟩
                            have tv717 := congrArg Int32.toInt hv717
                            exact ⟨_, rfl, hI697, hF701, _, rfl, by omega, ⟨⟨⟨by omega, by omega, by omega, by omega, by omega, by omega, by omega, by omega, by omega, by omega⟩, (by intro i i0 i1; refine (eA_ti ((hF698.2.1 233 ma_X11_tell_231_233))).trans ?_; (first | (refine ((lw_v691 (i) (by first | exact i0 | omega) (by first | exact i1 | omega))).trans ?_; refine (eA_ti ((gA_sI))).trans ?_; (first | with_reducible rfl | omega | exact eA_ix (by omega) | rfl)) | (refine ((hr684.2.2.1 (i) (by first | exact i0 | omega) (by first | exact i1 | omega))).trans ?_; refine (eA_ti ((gA_sI))).trans ?_; (first | with_reducible rfl | omega | exact eA_ix (by omega) | rfl)) | (refine ((fq694 (i) (by first | exact i0 | omega) (by first | exact i1 | omega))).trans ?_; exact (Decidable.em ((i) = 46 + 6 * (eA g0 233 1).toInt + 0)).elim (fun k233_ => by refine (if_pos k233_).trans ?_; (first | with_reducible rfl | omega | exact eA_ix (by omega) | rfl)) (fun k233_ => by refine (if_neg k233_).trans ?_; exact (Decidable.em ((i) = 46 + 6 * (eA g0 233 1).toInt + 1)).elim (fun k234_ => by refine (if_pos k234_).trans ?_; (first | with_reducible rfl | omega | exact eA_ix (by omega) | rfl)) (fun k234_ => by refine (if_neg k234_).trans ?_; exact (Decidable.em ((i) = 46 + 6 * (eA g0 233 1).toInt + 2)).elim (fun k235_ => by refine (if_pos k235_).trans ?_; (first | with_reducible rfl | omega | exact eA_ix (by omega) | rfl)) (fun k235_ => by refine (if_neg k235_).trans ?_; exact (Decidable.em ((i) = 46 + 6 * (eA g0 233 1).toInt + 3)).elim (fun k236_ => by refine (if_pos k236_).trans ?_; (first | with_reducible rfl | omega | exact eA_ix (by omega) | rfl)) (fun k236_ => by refine (if_neg k236_).trans ?_; exact (Decidable.em ((i) = 46 + 6 * (eA g0 233 1).toInt + 4)).elim (fun k237_ => by refine (if_pos k237_).trans ?_; (first | with_reducible rfl | omega | exact eA_ix (by omega) | rfl)) (fun k237_ => by refine (if_neg k237_).trans ?_; exact (Decidable.em ((i) = 46 + 6 * (eA g0 233 1).toInt + 5)).elim (fun k238_ => by refine (if_pos k238_).trans ?_; (first | with_reducible rfl | omega | exact eA_ix (by omega) | rfl)) (fun k238_ => by refine (if_neg k238_).trans ?_; refine (eA_ti ((gA_sI))).trans ?_; (first | with_reducible rfl | omega | exact eA_ix (by omega) | rfl)))))))))), (by intro i i0 i1; refine (eA_ti ((hF698.2.1 233 ma_X11_tell_231_233))).trans ?_; (first | (refine ((hr684.2.2.1 (i) (by first | exact i0 | omega) (by first | exact i1 | omega))).trans ?_; refine (eA_ti ((gA_sI))).trans ?_; (first | with_reducible rfl | omega | exact eA_ix (by omega) | rfl)) | (refine ((fq694 (i) (by first | exact i0 | omega) (by first | exact i1 | omega))).trans ?_; exact (Decidable.em ((i) = 46 + 6 * (eA g0 233 1).toInt + 0)).elim (fun k239_ => by refine (if_pos k239_).trans ?_; (first | with_reducible rfl | omega | exact eA_ix (by omega) | rfl)) (fun k239_ => by refine (if_neg k239_).trans ?_; exact (Decidable.em ((i) = 46 + 6 * (eA g0 233 1).toInt + 1)).elim (fun k240_ => by refine (if_pos k240_).trans ?_; (first | with_reducible rfl | omega | exact eA_ix (by omega) | rfl)) (fun k240_ => by refine (if_neg k240_).trans ?_; exact (Decidable.em ((i) = 46 + 6 * (eA g0 233 1).toInt + 2)).elim (fun k241_ => by refine (if_pos k241_).trans ?_; (first | with_reducible rfl | omega | exact eA_ix (by omega) | rfl)) (fun k241_ => by refine (if_neg k241_).trans ?_; exact (Decidable.em ((i) = 46 + 6 * (eA g0 233 1).toInt + 3)).elim (fun k242_ => by refine (if_pos k242_).trans ?_; (first | with_reducible rfl | omega | exact eA_ix (by omega) | rfl)) (fun k242_ => by refine (if_neg k242_).trans ?_; exact (Decidable.em ((i) = 46 + 6 * (eA g0 233 1).toInt + 4)).elim (fun k243_ => by refine (if_pos k243_).trans ?_; (first | with_reducible rfl | omega | exact eA_ix (by omega) | rfl)) (fun k243_ => by refine (if_neg k243_).trans ?_; exact (Decidable.em ((i) = 46 + 6 * (eA g0 233 1).toInt + 5)).elim (fun k244_ => by refine (if_pos k244_).trans ?_; (first | with_reducible rfl | omega | exact eA_ix (by omega) | rfl)) (fun k244_ => by refine (if_neg k244_).trans ?_; refine (eA_ti ((gA_sI))).trans ?_; (first | with_reducible rfl | omega | exact eA_ix (by omega) | rfl)))))))) | (refine ((lw_v691 (i) (by first | exact i0 | omega) (by first | exact i1 | omega))).trans ?_; refine (eA_ti ((gA_sI))).trans ?_; (first | with_reducible rfl | omega | exact eA_ix (by omega) | rfl)))), (by have kp : (1 ≤ a1.toInt ∧ a1.toInt ≤ 9 ∧ 0 ≤ a4.toInt ∧ a4.toInt ≤ 99 ∧ 0 ≤ a5.toInt ∧ a5.toInt ≤ 9 ∧ 0 ≤ a6.toInt ∧ a6.toInt ≤ 9999) ∧ (0 ≤ a2.toInt ∧ a2.toInt < (eA g0 233 0).toInt ∧ 0 ≤ a3.toInt ∧ a3.toInt < (eA g0 233 0).toInt) ∧ (eA g0 233 1).toInt < 8 := (by omega); intro i i0 i1; exact (Decidable.em (i = 46 + 6 * (eA g0 233 1).toInt + 0)).elim (fun k245_ => by refine Eq.trans ?_ (if_pos ⟨kp, k245_⟩).symm; refine (eA_ti ((hF698.2.1 233 ma_X11_tell_231_233))).trans ?_; (first | (refine ((fq694 (i) (by first | exact i0 | omega) (by first | exact i1 | omega))).trans ?_; refine (if_pos k245_).trans ?_; (first | with_reducible rfl | omega | exact eA_ix (by omega) | rfl)) | (refine ((hr684.2.2.1 (i) (by first | exact i0 | omega) (by first | exact i1 | omega))).trans ?_; refine (eA_ti ((gA_sI))).trans ?_; (first | with_reducible rfl | omega | exact eA_ix (by omega) | rfl)) | (refine ((lw_v691 (i) (by first | exact i0 | omega) (by first | exact i1 | omega))).trans ?_; refine (eA_ti ((gA_sI))).trans ?_; (first | with_reducible rfl | omega | exact eA_ix (by omega) | rfl)))) (fun k245_ => by refine Eq.trans ?_ (if_neg (fun z => k245_ z.2)).symm; exact (Decidable.em (i = 46 + 6 * (eA g0 233 1).toInt + 1)).elim (fun k246_ => by refine Eq.trans ?_ (if_pos ⟨kp, k246_⟩).symm; refine (eA_ti ((hF698.2.1 233 ma_X11_tell_231_233))).trans ?_; (first | (refine ((fq694 (i) (by first | exact i0 | omega) (by first | exact i1 | omega))).trans ?_; refine (if_neg k245_).trans ?_; refine (if_pos k246_).trans ?_; (first | with_reducible rfl | omega | exact eA_ix (by omega) | rfl)) | (refine ((hr684.2.2.1 (i) (by first | exact i0 | omega) (by first | exact i1 | omega))).trans ?_; refine (eA_ti ((gA_sI))).trans ?_; (first | with_reducible rfl | omega | exact eA_ix (by omega) | rfl)) | (refine ((lw_v691 (i) (by first | exact i0 | omega) (by first | exact i1 | omega))).trans ?_; refine (eA_ti ((gA_sI))).trans ?_; (first | with_reducible rfl | omega | exact eA_ix (by omega) | rfl)))) (fun k246_ => by refine Eq.trans ?_ (if_neg (fun z => k246_ z.2)).symm; exact (Decidable.em (i = 46 + 6 * (eA g0 233 1).toInt + 2)).elim (fun k247_ => by refine Eq.trans ?_ (if_pos ⟨kp, k247_⟩).symm; refine (eA_ti ((hF698.2.1 233 ma_X11_tell_231_233))).trans ?_; (first | (refine ((fq694 (i) (by first | exact i0 | omega) (by first | exact i1 | omega))).trans ?_; refine (if_neg k245_).trans ?_; refine (if_neg k246_).trans ?_; refine (if_pos k247_).trans ?_; (first | with_reducible rfl | omega | exact eA_ix (by omega) | rfl)) | (refine ((hr684.2.2.1 (i) (by first | exact i0 | omega) (by first | exact i1 | omega))).trans ?_; refine (eA_ti ((gA_sI))).trans ?_; (first | with_reducible rfl | omega | exact eA_ix (by omega) | rfl)) | (refine ((lw_v691 (i) (by first | exact i0 | omega) (by first | exact i1 | omega))).trans ?_; refine (eA_ti ((gA_sI))).trans ?_; (first | with_reducible rfl | omega | exact eA_ix (by omega) | rfl)))) (fun k247_ => by refine Eq.trans ?_ (if_neg (fun z => k247_ z.2)).symm; exact (Decidable.em (i = 46 + 6 * (eA g0 233 1).toInt + 3)).elim (fun k248_ => by refine Eq.trans ?_ (if_pos ⟨kp, k248_⟩).symm; refine (eA_ti ((hF698.2.1 233 ma_X11_tell_231_233))).trans ?_; (first | (refine ((fq694 (i) (by first | exact i0 | omega) (by first | exact i1 | omega))).trans ?_; refine (if_neg k245_).trans ?_; refine (if_neg k246_).trans ?_; refine (if_neg k247_).trans ?_; refine (if_pos k248_).trans ?_; (first | with_reducible rfl | omega | exact eA_ix (by omega) | rfl)) | (refine ((hr684.2.2.1 (i) (by first | exact i0 | omega) (by first | exact i1 | omega))).trans ?_; refine (eA_ti ((gA_sI))).trans ?_; (first | with_reducible rfl | omega | exact eA_ix (by omega) | rfl)) | (refine ((lw_v691 (i) (by first | exact i0 | omega) (by first | exact i1 | omega))).trans ?_; refine (eA_ti ((gA_sI))).trans ?_; (first | with_reducible rfl | omega | exact eA_ix (by omega) | rfl)))) (fun k248_ => by refine Eq.trans ?_ (if_neg (fun z => k248_ z.2)).symm; exact (Decidable.em (i = 46 + 6 * (eA g0 233 1).toInt + 4)).elim (fun k249_ => by refine Eq.trans ?_ (if_pos ⟨kp, k249_⟩).symm; refine (eA_ti ((hF698.2.1 233 ma_X11_tell_231_233))).trans ?_; (first | (refine ((fq694 (i) (by first | exact i0 | omega) (by first | exact i1 | omega))).trans ?_; refine (if_neg k245_).trans ?_; refine (if_neg k246_).trans ?_; refine (if_neg k247_).trans ?_; refine (if_neg k248_).trans ?_; refine (if_pos k249_).trans ?_; (first | with_reducible rfl | omega | exact eA_ix (by omega) | rfl)) | (refine ((hr684.2.2.1 (i) (by first | exact i0 | omega) (by first | exact i1 | omega))).trans ?_; refine (eA_ti ((gA_sI))).trans ?_; (first | with_reducible rfl | omega | exact eA_ix (by omega) | rfl)) | (refine ((lw_v691 (i) (by first | exact i0 | omega) (by first | exact i1 | omega))).trans ?_; refine (eA_ti ((gA_sI))).trans ?_; (first | with_reducible rfl | omega | exact eA_ix (by omega) | rfl)))) (fun k249_ => by refine Eq.trans ?_ (if_neg (fun z => k249_ z.2)).symm; exact (Decidable.em (i = 46 + 6 * (eA g0 233 1).toInt + 5)).elim (fun k250_ => by refine Eq.trans ?_ (if_pos ⟨kp, k250_⟩).symm; refine (eA_ti ((hF698.2.1 233 ma_X11_tell_231_233))).trans ?_; (first | (refine ((fq694 (i) (by first | exact i0 | omega) (by first | exact i1 | omega))).trans ?_; refine (if_neg k245_).trans ?_; refine (if_neg k246_).trans ?_; refine (if_neg k247_).trans ?_; refine (if_neg k248_).trans ?_; refine (if_neg k249_).trans ?_; refine (if_pos k250_).trans ?_; (first | with_reducible rfl | omega | exact eA_ix (by omega) | rfl)) | (refine ((hr684.2.2.1 (i) (by first | exact i0 | omega) (by first | exact i1 | omega))).trans ?_; refine (eA_ti ((gA_sI))).trans ?_; (first | with_reducible rfl | omega | exact eA_ix (by omega) | rfl)) | (refine ((lw_v691 (i) (by first | exact i0 | omega) (by first | exact i1 | omega))).trans ?_; refine (eA_ti ((gA_sI))).trans ?_; (first | with_reducible rfl | omega | exact eA_ix (by omega) | rfl)))) (fun k250_ => by refine Eq.trans ?_ (if_neg (fun z => k250_ z.2)).symm; refine (eA_ti ((hF698.2.1 233 ma_X11_tell_231_233))).trans ?_; (first | (refine ((fq694 (i) (by first | exact i0 | omega) (by first | exact i1 | omega))).trans ?_; refine (if_neg k245_).trans ?_; refine (if_neg k246_).trans ?_; refine (if_neg k247_).trans ?_; refine (if_neg k248_).trans ?_; refine (if_neg k249_).trans ?_; refine (if_neg k250_).trans ?_; refine (eA_ti ((gA_sI))).trans ?_; (first | with_reducible rfl | omega | exact eA_ix (by omega) | rfl)) | (refine ((hr684.2.2.1 (i) (by first | exact i0 | omega) (by first | exact i1 | omega))).trans ?_; refine (eA_ti ((gA_sI))).trans ?_; (first | with_reducible rfl | omega | exact eA_ix (by omega) | rfl)) | (refine ((lw_v691 (i) (by first | exact i0 | omega) (by first | exact i1 | omega))).trans ?_; refine (eA_ti ((gA_sI))).trans ?_; (first | with_reducible rfl | omega | exact eA_ix (by omega) | rfl))))))))))⟩, (SU.mk (by omega))⟩⟩
                          · have c677_ : v676.toInt = 8 := en_i_ne_f c677
                            refine At.enter rfl ?_
                            refine r_aload_n rfl ?_
                            refine r_bipush (-5) rfl ?_
                            refine r_callV 64 rfl [.ref 231, .int (-5)] [] (Nat.le_of_ble_eq_true rfl) rfl (T_X11_tell_231 _ hI283 (-5) (by decide)) ?_
                            rintro _ _ ⟨g719, rfl, hI720, hF721, v722, rfl, hr723⟩
                            refine At.sti ?_
                            have hF724 := Fr.tr hF284 hF721 rfl rfl
                            have zv725 : ((-5) : Int32).toInt = (-5) := rfl
                            refine At.enter rfl ?_
                            refine r_ireti ?_
                            have x726 := HI.eqA hI720 (p := 233) (j := 1) ((((eA_c (hF721.2.1 233 ma_X11_tell_231_233)).trans (eA_c gA_sI)).trans hv676))
                            have x727 := HI.eqA hI720 (p := 233) (j := 0) ((((eA_c (hF721.2.1 233 ma_X11_tell_231_233)).trans (eA_c gA_sI)).trans hv546))
                            obtain ⟨v728, hv728⟩ : ∃ v, eA g0 233 4 = v := ⟨_, rfl⟩
                            have wv728 := HI.t4 hI0
                            rw [hv728] at wv728
                            have tv728 := congrArg Int32.toInt hv728
                            have x729 := HI.eqA hI720 (p := 233) (j := 4) ((((eA_c (hF721.2.1 233 ma_X11_tell_231_233)).trans (eA_c gA_sI)).trans hv728))
                            obtain ⟨v730, hv730⟩ : ∃ v, eA g0 233 5 = v := ⟨_, rfl⟩
                            have wv730 := HI.t5 hI0
                            rw [hv730] at wv730
                            have tv730 := congrArg Int32.toInt hv730
                            have x731 := HI.eqA hI720 (p := 233) (j := 5) ((((eA_c (hF721.2.1 233 ma_X11_tell_231_233)).trans (eA_c gA_sI)).trans hv730))
                            obtain ⟨v732, hv732⟩ : ∃ v, eA g0 233 6 = v := ⟨_, rfl⟩
                            have wv732 := HI.t6 hI0
                            rw [hv732] at wv732
                            have tv732 := congrArg Int32.toInt hv732
                            have x733 := HI.eqA hI720 (p := 233) (j := 6) ((((eA_c (hF721.2.1 233 ma_X11_tell_231_233)).trans (eA_c gA_sI)).trans hv732))
                            obtain ⟨v734, hv734⟩ : ∃ v, eA g0 233 2 = v := ⟨_, rfl⟩
                            have tv734 := congrArg Int32.toInt hv734
                            have wv734 := HI.t2 hI0
                            rw [hv734] at wv734
                            have tv734 := congrArg Int32.toInt hv734
                            have x735 := HI.eqA hI720 (p := 233) (j := 2) ((((eA_c (hF721.2.1 233 ma_X11_tell_231_233)).trans (eA_c gA_sI)).trans hv734))
                            obtain ⟨v736, hv736⟩ : ∃ v, eA g0 233 3 = v := ⟨_, rfl⟩
                            have wv736 := HI.t3 hI0
                            rw [hv736] at wv736
                            have tv736 := congrArg Int32.toInt hv736
                            have x737 := HI.eqA hI720 (p := 233) (j := 3) ((((eA_c (hF721.2.1 233 ma_X11_tell_231_233)).trans (eA_c gA_sI)).trans hv736))
                            have x738 := HI.eqA hI0 (p := 233) (j := 1) (hv676)
                            have x739 := HI.eqA hI0 (p := 233) (j := 0) (hv546)
                            have x740 := HI.eqA hI0 (p := 233) (j := 0) (hv546)
                            have x741 := HI.eqA hI0 (p := 233) (j := 4) (hv728)
                            have x742 := HI.eqA hI0 (p := 233) (j := 5) (hv730)
                            have x743 := HI.eqA hI0 (p := 233) (j := 6) (hv732)
                            have x744 := HI.eqA hI0 (p := 233) (j := 2) (hv734)
                            have x745 := HI.eqA hI0 (p := 233) (j := 3) (hv736)
                            obtain ⟨v746, hv746⟩ : ∃ v, gI g719 231 1 = v := ⟨_, rfl⟩
                            have tv746 := congrArg Int32.toInt hv746
                            exact ⟨_, rfl, hI720, hF724, _, rfl, by omega, ⟨⟨⟨by omega, by omega, by omega, by omega, by omega, by omega, by omega, by omega, by omega, by omega⟩, (by intro i i0 i1; refine (eA_ti (((hF721.2.1 233 ma_X11_tell_231_233).trans (gA_sI)))).trans ?_; (first | with_reducible rfl | omega | exact eA_ix (by omega) | rfl)), (by intro i i0 i1; refine (eA_ti (((hF721.2.1 233 ma_X11_tell_231_233).trans (gA_sI)))).trans ?_; (first | with_reducible rfl | omega | exact eA_ix (by omega) | rfl)), (by have kn : ¬ ((1 ≤ a1.toInt ∧ a1.toInt ≤ 9 ∧ 0 ≤ a4.toInt ∧ a4.toInt ≤ 99 ∧ 0 ≤ a5.toInt ∧ a5.toInt ≤ 9 ∧ 0 ≤ a6.toInt ∧ a6.toInt ≤ 9999) ∧ (0 ≤ a2.toInt ∧ a2.toInt < (eA g0 233 0).toInt ∧ 0 ≤ a3.toInt ∧ a3.toInt < (eA g0 233 0).toInt) ∧ (eA g0 233 1).toInt < 8) := (by omega); intro i i0 i1; refine Eq.trans ?_ (if_neg (show ¬ (((1 ≤ a1.toInt ∧ a1.toInt ≤ 9 ∧ 0 ≤ a4.toInt ∧ a4.toInt ≤ 99 ∧ 0 ≤ a5.toInt ∧ a5.toInt ≤ 9 ∧ 0 ≤ a6.toInt ∧ a6.toInt ≤ 9999) ∧ (0 ≤ a2.toInt ∧ a2.toInt < (eA g0 233 0).toInt ∧ 0 ≤ a3.toInt ∧ a3.toInt < (eA g0 233 0).toInt) ∧ (eA g0 233 1).toInt < 8) ∧ i = 46 + 6 * (eA g0 233 1).toInt + 0) from fun z => kn z.1)).symm; refine Eq.trans ?_ (if_neg (show ¬ (((1 ≤ a1.toInt ∧ a1.toInt ≤ 9 ∧ 0 ≤ a4.toInt ∧ a4.toInt ≤ 99 ∧ 0 ≤ a5.toInt ∧ a5.toInt ≤ 9 ∧ 0 ≤ a6.toInt ∧ a6.toInt ≤ 9999) ∧ (0 ≤ a2.toInt ∧ a2.toInt < (eA g0 233 0).toInt ∧ 0 ≤ a3.toInt ∧ a3.toInt < (eA g0 233 0).toInt) ∧ (eA g0 233 1).toInt < 8) ∧ i = 46 + 6 * (eA g0 233 1).toInt + 1) from fun z => kn z.1)).symm; refine Eq.trans ?_ (if_neg (show ¬ (((1 ≤ a1.toInt ∧ a1.toInt ≤ 9 ∧ 0 ≤ a4.toInt ∧ a4.toInt ≤ 99 ∧ 0 ≤ a5.toInt ∧ a5.toInt ≤ 9 ∧ 0 ≤ a6.toInt ∧ a6.toInt ≤ 9999) ∧ (0 ≤ a2.toInt ∧ a2.toInt < (eA g0 233 0).toInt ∧ 0 ≤ a3.toInt ∧ a3.toInt < (eA g0 233 0).toInt) ∧ (eA g0 233 1).toInt < 8) ∧ i = 46 + 6 * (eA g0 233 1).toInt + 2) from fun z => kn z.1)).symm; refine Eq.trans ?_ (if_neg (show ¬ (((1 ≤ a1.toInt ∧ a1.toInt ≤ 9 ∧ 0 ≤ a4.toInt ∧ a4.toInt ≤ 99 ∧ 0 ≤ a5.toInt ∧ a5.toInt ≤ 9 ∧ 0 ≤ a6.toInt ∧ a6.toInt ≤ 9999) ∧ (0 ≤ a2.toInt ∧ a2.toInt < (eA g0 233 0).toInt ∧ 0 ≤ a3.toInt ∧ a3.toInt < (eA g0 233 0).toInt) ∧ (eA g0 233 1).toInt < 8) ∧ i = 46 + 6 * (eA g0 233 1).toInt + 3) from fun z => kn z.1)).symm; refine Eq.trans ?_ (if_neg (show ¬ (((1 ≤ a1.toInt ∧ a1.toInt ≤ 9 ∧ 0 ≤ a4.toInt ∧ a4.toInt ≤ 99 ∧ 0 ≤ a5.toInt ∧ a5.toInt ≤ 9 ∧ 0 ≤ a6.toInt ∧ a6.toInt ≤ 9999) ∧ (0 ≤ a2.toInt ∧ a2.toInt < (eA g0 233 0).toInt ∧ 0 ≤ a3.toInt ∧ a3.toInt < (eA g0 233 0).toInt) ∧ (eA g0 233 1).toInt < 8) ∧ i = 46 + 6 * (eA g0 233 1).toInt + 4) from fun z => kn z.1)).symm; refine Eq.trans ?_ (if_neg (show ¬ (((1 ≤ a1.toInt ∧ a1.toInt ≤ 9 ∧ 0 ≤ a4.toInt ∧ a4.toInt ≤ 99 ∧ 0 ≤ a5.toInt ∧ a5.toInt ≤ 9 ∧ 0 ≤ a6.toInt ∧ a6.toInt ≤ 9999) ∧ (0 ≤ a2.toInt ∧ a2.toInt < (eA g0 233 0).toInt ∧ 0 ≤ a3.toInt ∧ a3.toInt < (eA g0 233 0).toInt) ∧ (eA g0 233 1).toInt < 8) ∧ i = 46 + 6 * (eA g0 233 1).toInt + 5) from fun z => kn z.1)).symm; refine (eA_ti (((hF721.2.1 233 ma_X11_tell_231_233).trans (gA_sI)))).trans ?_; (first | with_reducible rfl | omega | exact eA_ix (by omega) | rfl))⟩, (SU.mk (by omega))⟩⟩
