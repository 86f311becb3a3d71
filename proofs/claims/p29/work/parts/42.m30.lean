def F_X11_clear_231 : List (Nat × Nat) := [(231, 0)]
def A_X11_clear_231 : List Nat := [233]
set_option maxRecDepth 100000 in
set_option maxHeartbeats 4000000 in
theorem T_X11_clear_231 (d : Nat) {N : Nat} {g0 : List en_E} (hI0 : HI g0) : Ev (d + 1) 255 [.ref 231] (g0, N) (fun w h' => ∃ g', h' = (g', N) ∧ HI g' ∧ Fr F_X11_clear_231 A_X11_clear_231 g0 g' ∧ ∃ r : Int32, w = some (.int r) ∧ (0 ≤ r.toInt ∧ r.toInt ≤ 8) ∧ (((r.toInt = (eA g0 233 4).toInt ∧ (eA g' 233 4).toInt = 0) ∧ (eA g' 233 0).toInt = (eA g0 233 0).toInt ∧ (eA g' 233 5).toInt = (eA g0 233 5).toInt ∧ (eA g' 233 6).toInt = (eA g0 233 6).toInt ∧ (eA g' 233 1).toInt = (eA g0 233 1).toInt ∧ (eA g' 233 2).toInt = (eA g0 233 2).toInt ∧ (eA g' 233 3).toInt = (eA g0 233 3).toInt) ∧ (∀ i : Int, 10 ≤ i → i < 5510 → (eA g' 233 (i)).toInt = (eA g0 233 (i)).toInt))) := by
  have hF0 : Fr F_X11_clear_231 A_X11_clear_231 g0 g0 := Fr.rf
  refine Ev.mk rfl rfl ⟨Nat.le_of_ble_eq_true rfl, Or.inr (q_rc hI0.1 kx_231 rfl)⟩ ?_
  show At _ none _ _ (0, [(0, .ref 231)], [], (_, _)) _
  refine At.enter rfl ?_
  refine r_aload_n rfl ?_
  refine r_iconst 0 rfl ?_
  refine q_putI (Sh.int hI0.1 kx_231 rfl) rfl ?_
  have hI13 := HI.wI0 hI0 kx_231 rfl (p := 231) (b := 0) (v := 0) rfl
  have hF14 := Fr.wI (p := 231) (b := 0) (v := 0) hF0 rfl
  refine r_aload_n rfl ?_
  refine q_getR (Sh.ref hI13.1 kx_231 rfl) ?_
  refine r_iconst 4 rfl ?_
  obtain ⟨v15, hv15⟩ : ∃ v, eA g0 233 4 = v := ⟨_, rfl⟩
  have wv15 := HI.t4 hI0
  rw [hv15] at wv15
  refine q_iald (Sh.arr hI13.1 ka_233) 4 rfl (by decide) v15 ((eA_c (gA_sI)).trans hv15) ?_
  refine r_istore_n ([(1, .int v15), (0, .ref 231)]) rfl ?_
  refine r_aload_n rfl ?_
  refine q_getR (Sh.ref hI13.1 kx_231 rfl) ?_
  refine r_iconst 4 rfl ?_
  refine r_iconst 0 rfl ?_
  refine q_iast (Sh.arr hI13.1 ka_233) (4) rfl (by decide) ?_
  have zv18 : (0 : Int32).toInt = 0 := rfl
  have hI16 := HI.wt hI13 (j := 4) (v := 0) (by omega) (by omega)
  have hF17 := Fr.wA (p := 233) (j := 4) (v := 0) hF14 rfl
  refine r_iload_n rfl ?_
  refine r_ireti ?_
  have x19 := HI.eqA hI16 (p := 233) (j := 4) ((eA_sA_eq hI13.1 ka_233 (by first | rfl | omega) (by first | decide | omega) (by first | decide | omega)))
  have zv20 : (0 : Int32).toInt = 0 := rfl
  obtain ⟨v21, hv21⟩ : ∃ v, eA g0 233 0 = v := ⟨_, rfl⟩
  have tv21 := congrArg Int32.toInt hv21
  have wv21 := HI.t0 hI0
  rw [hv21] at wv21
  have tv21 := congrArg Int32.toInt hv21
  have x22 := HI.eqA hI16 (p := 233) (j := 0) ((((eA_sA_ne hI13.1 ka_233 (by first | decide | omega) (by first | decide | omega) (by first | decide | omega)).trans (eA_c gA_sI)).trans hv21))
  obtain ⟨v23, hv23⟩ : ∃ v, eA g0 233 5 = v := ⟨_, rfl⟩
  have wv23 := HI.t5 hI0
  rw [hv23] at wv23
  have tv23 := congrArg Int32.toInt hv23
  have x24 := HI.eqA hI16 (p := 233) (j := 5) ((((eA_sA_ne hI13.1 ka_233 (by first | decide | omega) (by first | decide | omega) (by first | decide | omega)).trans (eA_c gA_sI)).trans hv23))
  obtain ⟨v25, hv25⟩ : ∃ v, eA g0 233 6 = v := ⟨_, rfl⟩
  have wv25 := HI.t6 hI0
  rw [hv25] at wv25
  have tv25 := congrArg Int32.toInt hv25
  have x26 := HI.eqA hI16 (p := 233) (j := 6) ((((eA_sA_ne hI13.1 ka_233 (by first | decide | omega) (by first | decide | omega) (by first | decide | omega)).trans (eA_c gA_sI)).trans hv25))
  obtain ⟨v27, hv27⟩ : ∃ v, eA g0 233 1 = v := ⟨_, rfl⟩
  have tv27 := congrArg Int32.toInt hv27
  have wv27 := HI.t1 hI0
  rw [hv27] at wv27
  have tv27 := congrArg Int32.toInt hv27
  have x28 := HI.eqA hI16 (p := 233) (j := 1) ((((eA_sA_ne hI13.1 ka_233 (by first | decide | omega) (by first | decide | omega) (by first | decide | omega)).trans (eA_c gA_sI)).trans hv27))
  obtain ⟨v29, hv29⟩ : ∃ v, eA g0 233 2 = v := ⟨_, rfl⟩
  have tv29 := congrArg Int32.toInt hv29
  have wv29 := HI.t2 hI0
  rw [hv29] at wv29
  have tv29 := congrArg Int32.toInt hv29
  have x30 := HI.eqA hI16 (p := 233) (j := 2) ((((eA_sA_ne hI13.1 ka_233 (by first | decide | omega) (by first | decide | omega) (by first | decide | omega)).trans (eA_c gA_sI)).trans hv29))
  obtain ⟨v31, hv31⟩ : ∃ v, eA g0 233 3 = v := ⟨_, rfl⟩
  have wv31 := HI.t3 hI0
  rw [hv31] at wv31
  have tv31 := congrArg Int32.toInt hv31
  have x32 := HI.eqA hI16 (p := 233) (j := 3) ((((eA_sA_ne hI13.1 ka_233 (by first | decide | omega) (by first | decide | omega) (by first | decide | omega)).trans (eA_c gA_sI)).trans hv31))
  have x33 := HI.eqA hI0 (p := 233) (j := 4) (hv15)
  have x34 := HI.eqA hI0 (p := 233) (j := 0) (hv21)
  have x35 := HI.eqA hI0 (p := 233) (j := 5) (hv23)
  have x36 := HI.eqA hI0 (p := 233) (j := 6) (hv25)
  have x37 := HI.eqA hI0 (p := 233) (j := 1) (hv27)
  have x38 := HI.eqA hI0 (p := 233) (j := 2) (hv29)
  have x39 := HI.eqA hI0 (p := 233) (j := 3) (hv31)
  exact ⟨_, rfl, hI16, hF17, _, rfl, by omega, ⟨⟨by omega, by omega, by omega, by omega, by omega, by omega, by omega⟩, (by intro i i0 i1; exact (Decidable.em (i = 4)).elim (fun k336_ => by refine (eA_eqT hI13.1 ka_233 k336_ (by first | decide | omega) (by first | decide | omega)).trans ?_; (first | with_reducible rfl | omega | exact eA_ix (by omega) | rfl)) (fun k336_ => by refine (eA_neT hI13.1 ka_233 k336_ (by first | decide | omega) (by omega)).trans ?_; refine (eA_ti ((gA_sI))).trans ?_; (first | with_reducible rfl | omega | exact eA_ix (by omega) | rfl)))⟩⟩
