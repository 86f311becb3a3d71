theorem zr_tell0 (d : Nat) {g : List en_E} {N : Nat} {fs : List Value} (h1 : g[231]? = some (.inr (11, fs))) (f1 : 1 < fs.length) : Ev (d + 1) 162 [.ref 231, .int 0] (g, N) (fun r h' => r = some (.int 0) ∧ h' = (g.set 231 (.inr (11, fs.set 1 (.int 0))), N)) := by
  refine Ev.mk rfl rfl ⟨Nat.le_of_ble_eq_true rfl, Or.inr (en_rcI h1 rfl)⟩ ?_
  show At _ none _ _ (0, [(0, .ref 231), (1, .int 0)], [], (g, N)) _
  refine At.enter rfl ?_
  refine r_aload_n rfl ?_
  refine r_iload_n rfl ?_
  refine r_ift (by decide) ?_
  refine At.enter rfl ?_
  refine r_iconst 0 rfl ?_
  refine Ar.fall 10 rfl ?_
  refine At.enter rfl ?_
  refine r_putf h1 f1 rfl _ rfl ?_
  refine r_iload_n rfl ?_
  refine r_ift (by decide) ?_
  refine At.enter rfl ?_
  refine r_iload_n rfl ?_
  refine r_ireti ?_
  exact ⟨rfl, rfl⟩
theorem zr_img_rest {B : List en_E} {N : Nat} {fs : List Value} {ROW ys0 zs : List Int32} {a1 : Int32} (hk : 0 ≤ a1.toInt ∧ a1.toInt ≤ 1) (h1 : B[231]? = some (.inr (11, fs))) (f1 : 1 < fs.length) (f3 : fs[3]? = some (.ref 233)) (f4 : fs[4]? = some (.ref 234)) (f5 : fs[5]? = some (.ref 235)) (h3 : B[233]? = some (.inl (0, .inl ROW))) (hR : ROW.length = 5510) (h4 : B[234]? = some (.inl (0, .inl ys0))) (hy0 : ys0.length = 11020) (h5 : B[235]? = some (.inl (2, .inl zs))) (hz : zs.length = 2) (hB : B.length = 259) : At 13 none (some .int) bs_X11_image (23, [(2, .int 0), (0, .ref 231), (1, .int a1)], [], (B, N)) (fun r h' => r = some (.int 0) ∧ h'.1.length = 259 ∧ h'.2 = N) := by
  refine At.hp (en_sg h4) ?_
  refine zr_img_loop 13 h1 f3 f4 h3 h4 hR hk ?_ 5510 0 ys0 _ (by decide) (by decide) hy0 rfl rfl rfl
  intro ys l hy g0 g1
  refine At.enter rfl ?_
  refine r_aload_n g0 ?_
  refine r_get (v := .ref 235) (en_gs_ne (by decide) h1) f5 ?_
  refine r_iload_n g1 ?_
  refine r_iconst 1 rfl ?_
  refine r_bast (en_gs_ne (by decide) h5) (en_ge0 hk.1) (by show a1.toInt.toNat < zs.length; omega) _ rfl ?_
  refine r_aload_n g0 ?_
  refine r_iconst 0 rfl ?_
  refine r_callV 66 rfl [.ref 231, .int 0] [] (Nat.le_of_ble_eq_true rfl) rfl (zr_tell0 12 (en_gs_ne (by decide) (en_gs_ne (by decide) h1)) f1) (fun r h' q => ?_)
  obtain ⟨e1, e2⟩ := q
  subst e1
  subst e2
  refine At.enter rfl ?_
  refine r_ireti ?_
  refine ⟨rfl, ?_, rfl⟩
  show (((_ : List en_E).set _ _).set _ _).length = 259
  rw [List.length_set, List.length_set, List.length_set]
  exact hB
def sp_image (a1 : Int32) : Int32 := if 0 ≤ a1.toInt ∧ a1.toInt ≤ 1 then 0 else -1
set_option maxRecDepth 100000 in
set_option maxHeartbeats 4000000 in
theorem zm_X11_image (a : Nat → en_E) (n : Nat) (a1 : Int32) : Ev 14 165 [.ref 231, .int a1] (en_pre a 231 hp_M, n) (fun r h' => r = some (.int (sp_image a1)) ∧ h'.1.length = 259 ∧ h'.2 = n) := by
  refine Ev.mk rfl rfl ⟨Nat.le_of_ble_eq_true rfl, Or.inr (en_rcI (hm_231 _) rfl)⟩ ?_
  show At _ none _ _ (0, [(0, .ref 231), (1, .int a1)], [], (en_pre a 231 hp_M, n)) _
  refine At.enter rfl ?_
  refine r_aload_n rfl ?_
  refine r_iconst 0 rfl ?_
  refine r_putf (hm_231 _) (Nat.le_of_ble_eq_true rfl) rfl [.int 0, .int 0, .ref 232, .ref 233, .ref 234, .ref 235, .int 0, .ref 236, .int 0, .int 0, .int 0, .int 0, .long 0, .int (-1), .int 0, .int 0, .ref 237, .int 0, .ref 238, .ref 239, .int 0, .ref 240, .ref 241, .int 0, .int 0, .ref 242, .ref 243, .int 0, .ref 244, .ref 245, .int 0, .long 0, .long 0, .ref 246, .ref 247, .ref 248, .int 0, .ref 249, .ref 250, .ref 251, .ref 252, .ref 253, .ref 254, .ref 255, .ref 256, .int 0, .int 0, .int 0, .long 0, .ref 257, .ref 258, .int 0] rfl ?_
  refine Ar.hp (en_sg (hm_231 _)).symm ?_
  refine r_iload_n rfl ?_
  refine r_i2l ((a1).toInt64) rfl ?_
  refine r_lconst 0 rfl ?_
  refine r_lconst 1 rfl ?_
  refine r_callS3s (((a1).toInt < (0))) (((a1).toInt ≥ (0)) ∧ ((a1).toInt > (1))) (((a1).toInt ≥ (0)) ∧ ((a1).toInt ≤ (1))) (.int 0) (.int 0) (.int 1) (en_pre a 231 hp_M, n) (en_pre a 231 hp_M, n) (en_pre a 231 hp_M, n) 12 rfl [.long (a1).toInt64, .long 0, .long 1] [] (Nat.le_of_ble_eq_true rfl) rfl ?_ (fun c1_ => ?_) (fun ⟨c1_, c2_⟩ => ?_) (fun ⟨c1_, c2_⟩ => ?_)
  · refine Ev.mk rfl rfl ⟨Nat.le_of_ble_eq_true rfl, Or.inl rfl⟩ ?_
    show At _ none _ _ (0, [(0, .long (a1).toInt64), (2, .long 0), (4, .long 1)], [], (en_pre a 231 hp_M, n)) _
    refine At.enter rfl ?_
    refine r_lload_n rfl ?_
    refine r_lload_n rfl ?_
    refine r_lcmp (lg_cmp (a1).toInt64 0) rfl ?_
    refine r_ifs 6 rfl (fun c1 => ?_) (fun c1 => ?_)
    · have c1_ : (a1).toInt < (0) := (by have z := en_j_lt_t c1; (try simp only [Int32.toInt_toInt64] at z); exact z)
      refine At.enter rfl ?_
      refine r_iconst 0 rfl ?_
      refine Ar.fall 18 rfl ?_
      refine At.enter rfl ?_
      refine r_iretz (by decide) ?_
      exact Or.inl ⟨c1_, rfl, rfl⟩
    · have c1_ : (a1).toInt ≥ (0) := (by have z := en_j_lt_f c1; (try simp only [Int32.toInt_toInt64] at z); exact z)
      refine At.enter rfl ?_
      refine r_lload_n rfl ?_
      refine r_lload rfl ?_
      refine r_lcmp (lg_cmp (a1).toInt64 1) rfl ?_
      refine r_ifs 13 rfl (fun c2 => ?_) (fun c2 => ?_)
      · have c2_ : (a1).toInt > (1) := (by have z := en_j_gt_t c2; (try simp only [Int32.toInt_toInt64] at z); exact z)
        refine At.enter rfl ?_
        refine r_iconst 0 rfl ?_
        refine Ar.fall 18 rfl ?_
        refine At.enter rfl ?_
        refine r_iretz (by decide) ?_
        exact Or.inr (Or.inl ⟨⟨c1_, c2_⟩, rfl, rfl⟩)
      · have c2_ : (a1).toInt ≤ (1) := (by have z := en_j_gt_f c2; (try simp only [Int32.toInt_toInt64] at z); exact z)
        refine At.enter rfl ?_
        refine r_iconst 1 rfl ?_
        refine r_goto ?_
        refine At.enter rfl ?_
        refine r_iretz (by decide) ?_
        exact Or.inr (Or.inr (⟨⟨c1_, c2_⟩, rfl, rfl⟩))
  · refine At.enter rfl ?_
    refine r_iff 15 rfl (by decide) ?_
    refine At.enter rfl ?_
    refine r_aload_n rfl ?_
    refine r_iconst (-1) rfl ?_
    refine r_callV1s (True) (.int (-1)) (((en_pre a 231 hp_M).set 231 (.inr (11, [.int 0, .int (-1), .ref 232, .ref 233, .ref 234, .ref 235, .int 0, .ref 236, .int 0, .int 0, .int 0, .int 0, .long 0, .int (-1), .int 0, .int 0, .ref 237, .int 0, .ref 238, .ref 239, .int 0, .ref 240, .ref 241, .int 0, .int 0, .ref 242, .ref 243, .int 0, .ref 244, .ref 245, .int 0, .long 0, .long 0, .ref 246, .ref 247, .ref 248, .int 0, .ref 249, .ref 250, .ref 251, .ref 252, .ref 253, .ref 254, .ref 255, .ref 256, .int 0, .int 0, .int 0, .long 0, .ref 257, .ref 258, .int 0]))).set 232 (.inl (0, .inl ([0, 1, 0, 0, 0, 0, 0]))), n) 20 rfl [.ref 231, .int (-1)] [] (Nat.le_of_ble_eq_true rfl) rfl ?_ (fun _ => ?_)
    · refine Ev.mk rfl rfl ⟨Nat.le_of_ble_eq_true rfl, Or.inr (en_rcI (hm_231 _) rfl)⟩ ?_
      show At _ none _ _ (0, [(0, .ref 231), (1, .int (-1))], [], (en_pre a 231 hp_M, n)) _
      refine At.enter rfl ?_
      refine r_aload_n rfl ?_
      refine r_iload_n rfl ?_
      refine r_iff 5 rfl (by decide) ?_
      refine At.enter rfl ?_
      refine r_iload_n rfl ?_
      refine r_goto ?_
      refine At.enter rfl ?_
      refine r_putf (hm_231 _) (Nat.le_of_ble_eq_true rfl) rfl [.int 0, .int (-1), .ref 232, .ref 233, .ref 234, .ref 235, .int 0, .ref 236, .int 0, .int 0, .int 0, .int 0, .long 0, .int (-1), .int 0, .int 0, .ref 237, .int 0, .ref 238, .ref 239, .int 0, .ref 240, .ref 241, .int 0, .int 0, .ref 242, .ref 243, .int 0, .ref 244, .ref 245, .int 0, .long 0, .long 0, .ref 246, .ref 247, .ref 248, .int 0, .ref 249, .ref 250, .ref 251, .ref 252, .ref 253, .ref 254, .ref 255, .ref 256, .int 0, .int 0, .int 0, .long 0, .ref 257, .ref 258, .int 0] rfl ?_
      refine r_iload_n rfl ?_
      refine r_iff 17 rfl (by decide) ?_
      refine At.enter rfl ?_
      refine r_aload_n rfl ?_
      refine r_get (v := .ref 232) (en_gs_eq (hm_231 _)) rfl ?_
      refine r_iload_n rfl ?_
      refine r_ineg 1 rfl ?_
      refine r_dup2 ⟨rfl, rfl⟩ ?_
      refine r_iald (v := 0) (en_gs_ne (by decide) (hm_232 _)) (by decide) rfl ?_
      refine r_iconst 1 rfl ?_
      refine r_iadd 1 rfl ?_
      refine r_iast (en_gs_ne (by decide) (hm_232 _)) (by decide) (Nat.le_of_ble_eq_true rfl) ([0, 1, 0, 0, 0, 0, 0]) (by decide +kernel) ?_
      refine Ar.fall 28 rfl ?_
      refine At.enter rfl ?_
      refine r_iload_n rfl ?_
      refine r_ireti ?_
      exact ⟨trivial, rfl, rfl⟩
    refine At.enter rfl ?_
    refine r_ireti ?_
    exact ⟨congrArg (fun z => some (Value.int z)) (by unfold sp_image; (repeat' split) <;> first | rfl | omega), (en_lset (en_lset (en_prel a))), rfl⟩
  · refine At.enter rfl ?_
    refine r_iff 15 rfl (by decide) ?_
    refine At.enter rfl ?_
    refine r_aload_n rfl ?_
    refine r_iconst (-1) rfl ?_
    refine r_callV1s (True) (.int (-1)) (((en_pre a 231 hp_M).set 231 (.inr (11, [.int 0, .int (-1), .ref 232, .ref 233, .ref 234, .ref 235, .int 0, .ref 236, .int 0, .int 0, .int 0, .int 0, .long 0, .int (-1), .int 0, .int 0, .ref 237, .int 0, .ref 238, .ref 239, .int 0, .ref 240, .ref 241, .int 0, .int 0, .ref 242, .ref 243, .int 0, .ref 244, .ref 245, .int 0, .long 0, .long 0, .ref 246, .ref 247, .ref 248, .int 0, .ref 249, .ref 250, .ref 251, .ref 252, .ref 253, .ref 254, .ref 255, .ref 256, .int 0, .int 0, .int 0, .long 0, .ref 257, .ref 258, .int 0]))).set 232 (.inl (0, .inl ([0, 1, 0, 0, 0, 0, 0]))), n) 20 rfl [.ref 231, .int (-1)] [] (Nat.le_of_ble_eq_true rfl) rfl ?_ (fun _ => ?_)
    · refine Ev.mk rfl rfl ⟨Nat.le_of_ble_eq_true rfl, Or.inr (en_rcI (hm_231 _) rfl)⟩ ?_
      show At _ none _ _ (0, [(0, .ref 231), (1, .int (-1))], [], (en_pre a 231 hp_M, n)) _
      refine At.enter rfl ?_
      refine r_aload_n rfl ?_
      refine r_iload_n rfl ?_
      refine r_iff 5 rfl (by decide) ?_
      refine At.enter rfl ?_
      refine r_iload_n rfl ?_
      refine r_goto ?_
      refine At.enter rfl ?_
      refine r_putf (hm_231 _) (Nat.le_of_ble_eq_true rfl) rfl [.int 0, .int (-1), .ref 232, .ref 233, .ref 234, .ref 235, .int 0, .ref 236, .int 0, .int 0, .int 0, .int 0, .long 0, .int (-1), .int 0, .int 0, .ref 237, .int 0, .ref 238, .ref 239, .int 0, .ref 240, .ref 241, .int 0, .int 0, .ref 242, .ref 243, .int 0, .ref 244, .ref 245, .int 0, .long 0, .long 0, .ref 246, .ref 247, .ref 248, .int 0, .ref 249, .ref 250, .ref 251, .ref 252, .ref 253, .ref 254, .ref 255, .ref 256, .int 0, .int 0, .int 0, .long 0, .ref 257, .ref 258, .int 0] rfl ?_
      refine r_iload_n rfl ?_
      refine r_iff 17 rfl (by decide) ?_
      refine At.enter rfl ?_
      refine r_aload_n rfl ?_
      refine r_get (v := .ref 232) (en_gs_eq (hm_231 _)) rfl ?_
      refine r_iload_n rfl ?_
      refine r_ineg 1 rfl ?_
      refine r_dup2 ⟨rfl, rfl⟩ ?_
      refine r_iald (v := 0) (en_gs_ne (by decide) (hm_232 _)) (by decide) rfl ?_
      refine r_iconst 1 rfl ?_
      refine r_iadd 1 rfl ?_
      refine r_iast (en_gs_ne (by decide) (hm_232 _)) (by decide) (Nat.le_of_ble_eq_true rfl) ([0, 1, 0, 0, 0, 0, 0]) (by decide +kernel) ?_
      refine Ar.fall 28 rfl ?_
      refine At.enter rfl ?_
      refine r_iload_n rfl ?_
      refine r_ireti ?_
      exact ⟨trivial, rfl, rfl⟩
    refine At.enter rfl ?_
    refine r_ireti ?_
    exact ⟨congrArg (fun z => some (Value.int z)) (by unfold sp_image; (repeat' split) <;> first | rfl | omega), (en_lset (en_lset (en_prel a))), rfl⟩
  · refine At.enter rfl ?_
    refine r_ift (by decide) ?_
    refine At.enter rfl ?_
    refine r_iconst 0 rfl ?_
    refine r_istore_n ([(2, .int 0), (0, .ref 231), (1, .int a1)]) rfl ?_
    refine Ar.fall 23 rfl ?_
    have es_ : sp_image a1 = 0 := by unfold sp_image; (repeat' split) <;> first | rfl | omega
    rw [es_]
    exact zr_img_rest ⟨by omega, by omega⟩ (hm_231 _) (Nat.le_of_ble_eq_true rfl) rfl rfl rfl (hm_233 _) (by simp) (hm_234 _) (by simp) (hm_235 _) rfl (en_prel a)
set_option maxRecDepth 100000 in
set_option maxHeartbeats 4000000 in
theorem zx_X10_image (a1 : Int32) : Ev 14 140 [.ref 0, .int a1] (hp_X ++ hp_M, 51333) (fun r h' => r = some (.int (sp_image a1)) ∧ IsX h'.1 ∧ h'.2 = 51333) := by
  by_cases pp_0 : a1.toInt = 0
  · have pe_0 : a1 = 0 := Int32.toInt_inj.mp pp_0
    subst pe_0
    refine Ev.mk rfl rfl ⟨Nat.le_of_ble_eq_true rfl, Or.inr (en_rcI hx_0 rfl)⟩ ?_
    show At _ none _ _ (0, [(0, .ref 0), (1, .int 0)], [], (hp_X ++ hp_M, 51333)) _
    refine At.enter rfl ?_
    refine r_aload_n rfl ?_
    refine r_iload_n rfl ?_
    refine r_callV1s (True) (.ref 59) (hp_X ++ hp_M, 51333) 5 rfl [.ref 0, .int 0] [] (Nat.le_of_ble_eq_true rfl) rfl ?_ (fun _ => ?_)
    · refine Ev.mk rfl rfl ⟨Nat.le_of_ble_eq_true rfl, Or.inr (en_rcI hx_0 rfl)⟩ ?_
      show At _ none _ _ (0, [(0, .ref 0), (1, .int 0)], [], (hp_X ++ hp_M, 51333)) _
      refine At.enter rfl ?_
      refine r_iload_n rfl ?_
      refine r_iconst 0 rfl ?_
      refine r_iconst 1 rfl ?_
      refine r_callS1s (True) (.int 1) (hp_X ++ hp_M, 51333) 6 rfl [.int 0, .int 0, .int 1] [] (Nat.le_of_ble_eq_true rfl) rfl ?_ (fun _ => ?_)
      · refine Ev.mk rfl rfl ⟨Nat.le_of_ble_eq_true rfl, Or.inl rfl⟩ ?_
        show At _ none _ _ (0, [(0, .int 0), (1, .int 0), (2, .int 1)], [], (hp_X ++ hp_M, 51333)) _
        refine At.enter rfl ?_
        refine r_iload_n rfl ?_
        refine r_iload_n rfl ?_
        refine r_icf 5 rfl (by decide) ?_
        refine At.enter rfl ?_
        refine r_iload_n rfl ?_
        refine r_iload_n rfl ?_
        refine r_icf 10 rfl (by decide) ?_
        refine At.enter rfl ?_
        refine r_iconst 1 rfl ?_
        refine r_goto ?_
        refine At.enter rfl ?_
        refine r_iretz (by decide) ?_
        exact ⟨trivial, rfl, rfl⟩
      refine At.enter rfl ?_
      refine r_iff 9 rfl (by decide) ?_
      refine At.enter rfl ?_
      refine r_aload_n rfl ?_
      refine r_get (v := .ref 58) hx_0 rfl ?_
      refine r_iload_n rfl ?_
      refine r_aald (v := some 59) hx_58 (by decide) (by decide) rfl ?_
      refine r_goto ?_
      refine At.enter rfl ?_
      refine r_aret ?_
      exact ⟨trivial, rfl, rfl⟩
    refine At.enter rfl ?_
    refine r_astore_n ([(2, .ref 59), (0, .ref 0), (1, .int 0)]) rfl ?_
    refine r_aload_n rfl ?_
    refine r_nnr ?_
    refine At.enter rfl ?_
    refine r_aload_n rfl ?_
    refine r_aload_n rfl ?_
    refine r_get (v := .ref 1) hx_0 rfl ?_
    refine r_callV1v (True)  (hp_X ++ hp_M, 51333) 24 rfl [.ref 59, .ref 1] [] (Nat.le_of_ble_eq_true rfl) rfl ?_ (fun _ => ?_)
    · exact Ev.upn _ zc_7_X0_become
    refine At.enter rfl ?_
    refine r_aload_n rfl ?_
    refine r_get (v := .ref 173) hx_0 rfl ?_
    refine r_iload_n rfl ?_
    refine r_iconst 1 rfl ?_
    refine r_bast hx_173 (by decide) (Nat.le_of_ble_eq_true rfl) ([1, 0]) (by decide +kernel) ?_
    refine r_aload_n rfl ?_
    refine r_iconst 0 rfl ?_
    refine r_callV1s (True) (.int 0) ((hp_X ++ hp_M).set 173 (.inl (2, .inl ([1, 0]))), 51333) 36 rfl [.ref 0, .int 0] [] (Nat.le_of_ble_eq_true rfl) rfl ?_ (fun _ => ?_)
    · refine Ev.mk rfl rfl ⟨Nat.le_of_ble_eq_true rfl, Or.inr (en_rcI (en_gs_ne (by decide) hx_0) rfl)⟩ ?_
      show At _ none _ _ (0, [(0, .ref 0), (1, .int 0)], [], ((hp_X ++ hp_M).set 173 (.inl (2, .inl ([1, 0]))), 51333)) _
      refine At.enter rfl ?_
      refine r_aload_n rfl ?_
      refine r_iconst 0 rfl ?_
      refine r_putf (en_gs_ne (by decide) hx_0) (Nat.le_of_ble_eq_true rfl) rfl [.ref 1, .ref 58, .ref 173, .ref 174, .ref 176, .ref 184, .ref 188, .ref 204, .ref 220, .ref 222, .ref 223, .ref 228, .ref 229, .ref 230, .int 0, .int 0, .int 0, .int 0] rfl ?_
      refine Ar.hp (en_sg (en_gs_ne (by decide) hx_0)).symm ?_
      refine r_iload_n rfl ?_
      refine r_ireti ?_
      exact ⟨trivial, rfl, rfl⟩
    refine At.enter rfl ?_
    refine r_ireti ?_
    exact ⟨congrArg (fun z => some (Value.int z)) (by have z0 : (0 : Int32).toInt = 0 := rfl; have z1 : (1 : Int32).toInt = 1 := rfl; have z2 : (-1 : Int32).toInt = -1 := rfl; have z4 : (4 : Int32).toInt = 4 := rfl; have z5 : (5 : Int32).toInt = 5 := rfl; unfold sp_image; (repeat' split) <;> first | rfl | omega | (refine Int32.toInt_inj.mp ?_; omega)), (IsX.set IsX.base (by decide)), rfl⟩
  by_cases pp_1 : a1.toInt = 1
  · have pe_1 : a1 = 1 := Int32.toInt_inj.mp pp_1
    subst pe_1
    refine Ev.mk rfl rfl ⟨Nat.le_of_ble_eq_true rfl, Or.inr (en_rcI hx_0 rfl)⟩ ?_
    show At _ none _ _ (0, [(0, .ref 0), (1, .int 1)], [], (hp_X ++ hp_M, 51333)) _
    refine At.enter rfl ?_
    refine r_aload_n rfl ?_
    refine r_iload_n rfl ?_
    refine r_callV1s (True) (.ref 116) (hp_X ++ hp_M, 51333) 5 rfl [.ref 0, .int 1] [] (Nat.le_of_ble_eq_true rfl) rfl ?_ (fun _ => ?_)
    · refine Ev.mk rfl rfl ⟨Nat.le_of_ble_eq_true rfl, Or.inr (en_rcI hx_0 rfl)⟩ ?_
      show At _ none _ _ (0, [(0, .ref 0), (1, .int 1)], [], (hp_X ++ hp_M, 51333)) _
      refine At.enter rfl ?_
      refine r_iload_n rfl ?_
      refine r_iconst 0 rfl ?_
      refine r_iconst 1 rfl ?_
      refine r_callS1s (True) (.int 1) (hp_X ++ hp_M, 51333) 6 rfl [.int 1, .int 0, .int 1] [] (Nat.le_of_ble_eq_true rfl) rfl ?_ (fun _ => ?_)
      · refine Ev.mk rfl rfl ⟨Nat.le_of_ble_eq_true rfl, Or.inl rfl⟩ ?_
        show At _ none _ _ (0, [(0, .int 1), (1, .int 0), (2, .int 1)], [], (hp_X ++ hp_M, 51333)) _
        refine At.enter rfl ?_
        refine r_iload_n rfl ?_
        refine r_iload_n rfl ?_
        refine r_icf 5 rfl (by decide) ?_
        refine At.enter rfl ?_
        refine r_iload_n rfl ?_
        refine r_iload_n rfl ?_
        refine r_icf 10 rfl (by decide) ?_
        refine At.enter rfl ?_
        refine r_iconst 1 rfl ?_
        refine r_goto ?_
        refine At.enter rfl ?_
        refine r_iretz (by decide) ?_
        exact ⟨trivial, rfl, rfl⟩
      refine At.enter rfl ?_
      refine r_iff 9 rfl (by decide) ?_
      refine At.enter rfl ?_
      refine r_aload_n rfl ?_
      refine r_get (v := .ref 58) hx_0 rfl ?_
      refine r_iload_n rfl ?_
      refine r_aald (v := some 116) hx_58 (by decide) (by decide) rfl ?_
      refine r_goto ?_
      refine At.enter rfl ?_
      refine r_aret ?_
      exact ⟨trivial, rfl, rfl⟩
    refine At.enter rfl ?_
    refine r_astore_n ([(2, .ref 116), (0, .ref 0), (1, .int 1)]) rfl ?_
    refine r_aload_n rfl ?_
    refine r_nnr ?_
    refine At.enter rfl ?_
    refine r_aload_n rfl ?_
    refine r_aload_n rfl ?_
    refine r_get (v := .ref 1) hx_0 rfl ?_
    refine r_callV1v (True)  (hp_X ++ hp_M, 51333) 24 rfl [.ref 116, .ref 1] [] (Nat.le_of_ble_eq_true rfl) rfl ?_ (fun _ => ?_)
    · exact Ev.upn _ zc_8_X0_become
    refine At.enter rfl ?_
    refine r_aload_n rfl ?_
    refine r_get (v := .ref 173) hx_0 rfl ?_
    refine r_iload_n rfl ?_
    refine r_iconst 1 rfl ?_
    refine r_bast hx_173 (by decide) (Nat.le_of_ble_eq_true rfl) ([0, 1]) (by decide +kernel) ?_
    refine r_aload_n rfl ?_
    refine r_iconst 0 rfl ?_
    refine r_callV1s (True) (.int 0) ((hp_X ++ hp_M).set 173 (.inl (2, .inl ([0, 1]))), 51333) 36 rfl [.ref 0, .int 0] [] (Nat.le_of_ble_eq_true rfl) rfl ?_ (fun _ => ?_)
    · refine Ev.mk rfl rfl ⟨Nat.le_of_ble_eq_true rfl, Or.inr (en_rcI (en_gs_ne (by decide) hx_0) rfl)⟩ ?_
      show At _ none _ _ (0, [(0, .ref 0), (1, .int 0)], [], ((hp_X ++ hp_M).set 173 (.inl (2, .inl ([0, 1]))), 51333)) _
      refine At.enter rfl ?_
      refine r_aload_n rfl ?_
      refine r_iconst 0 rfl ?_
      refine r_putf (en_gs_ne (by decide) hx_0) (Nat.le_of_ble_eq_true rfl) rfl [.ref 1, .ref 58, .ref 173, .ref 174, .ref 176, .ref 184, .ref 188, .ref 204, .ref 220, .ref 222, .ref 223, .ref 228, .ref 229, .ref 230, .int 0, .int 0, .int 0, .int 0] rfl ?_
      refine Ar.hp (en_sg (en_gs_ne (by decide) hx_0)).symm ?_
      refine r_iload_n rfl ?_
      refine r_ireti ?_
      exact ⟨trivial, rfl, rfl⟩
    refine At.enter rfl ?_
    refine r_ireti ?_
    exact ⟨congrArg (fun z => some (Value.int z)) (by have z0 : (0 : Int32).toInt = 0 := rfl; have z1 : (1 : Int32).toInt = 1 := rfl; have z2 : (-1 : Int32).toInt = -1 := rfl; have z4 : (4 : Int32).toInt = 4 := rfl; have z5 : (5 : Int32).toInt = 5 := rfl; unfold sp_image; (repeat' split) <;> first | rfl | omega | (refine Int32.toInt_inj.mp ?_; omega)), (IsX.set IsX.base (by decide)), rfl⟩
  have pq_ : a1.toInt < 0 ∨ a1.toInt > 1 := by omega
  rcases pq_ with pq_ | pq_
  · refine Ev.mk rfl rfl ⟨Nat.le_of_ble_eq_true rfl, Or.inr (en_rcI hx_0 rfl)⟩ ?_
    show At _ none _ _ (0, [(0, .ref 0), (1, .int a1)], [], (hp_X ++ hp_M, 51333)) _
    refine At.enter rfl ?_
    refine r_aload_n rfl ?_
    refine r_iload_n rfl ?_
    refine r_callV1s (((a1).toInt < (0))) (.null) (hp_X ++ hp_M, 51333) 5 rfl [.ref 0, .int a1] [] (Nat.le_of_ble_eq_true rfl) rfl ?_ (fun c1_ => ?_)
    · refine Ev.mk rfl rfl ⟨Nat.le_of_ble_eq_true rfl, Or.inr (en_rcI hx_0 rfl)⟩ ?_
      show At _ none _ _ (0, [(0, .ref 0), (1, .int a1)], [], (hp_X ++ hp_M, 51333)) _
      refine At.enter rfl ?_
      refine r_iload_n rfl ?_
      refine r_iconst 0 rfl ?_
      refine r_iconst 1 rfl ?_
      refine r_callS1s (((a1).toInt < (0))) (.int 0) (hp_X ++ hp_M, 51333) 6 rfl [.int a1, .int 0, .int 1] [] (Nat.le_of_ble_eq_true rfl) rfl ?_ (fun c1_ => ?_)
      · refine Ev.mk rfl rfl ⟨Nat.le_of_ble_eq_true rfl, Or.inl rfl⟩ ?_
        show At _ none _ _ (0, [(0, .int a1), (1, .int 0), (2, .int 1)], [], (hp_X ++ hp_M, 51333)) _
        refine At.enter rfl ?_
        refine r_iload_n rfl ?_
        refine r_iload_n rfl ?_
        refine r_ics 5 rfl (fun c1 => ?_) (fun c1 => ?_)
        · have c1_ : (a1).toInt < (0) := (by have z := en_i_lt_t c1; (try simp only [Int32.toInt_toInt64] at z); exact z)
          refine At.enter rfl ?_
          refine r_iconst 0 rfl ?_
          refine Ar.fall 15 rfl ?_
          refine At.enter rfl ?_
          refine r_iretz (by decide) ?_
          exact ⟨c1_, rfl, rfl⟩
        · have c1_ : (a1).toInt ≥ (0) := (by have z := en_i_lt_f c1; (try simp only [Int32.toInt_toInt64] at z); exact z)
          exfalso; omega
      refine At.enter rfl ?_
      refine r_ift (by decide) ?_
      refine At.enter rfl ?_
      refine r_null ?_
      refine Ar.fall 19 rfl ?_
      refine At.enter rfl ?_
      refine r_zret ?_
      exact ⟨c1_, rfl, rfl⟩
    refine At.enter rfl ?_
    refine r_zstore_n ([(2, .null), (0, .ref 0), (1, .int a1)]) rfl ?_
    refine r_zload_n rfl ?_
    refine r_nnz 10 rfl ?_
    refine At.enter rfl ?_
    refine r_aload_n rfl ?_
    refine r_iconst (-1) rfl ?_
    refine r_callV1s (True) (.int (-1)) (((hp_X ++ hp_M).set 0 (.inr (10, [.ref 1, .ref 58, .ref 173, .ref 174, .ref 176, .ref 184, .ref 188, .ref 204, .ref 220, .ref 222, .ref 223, .ref 228, .ref 229, .ref 230, .int 0, .int 0, .int 0, .int (-1)]))).set 230 (.inl (0, .inl ([0, 1, 0, 0, 0, 0, 0]))), 51333) 15 rfl [.ref 0, .int (-1)] [] (Nat.le_of_ble_eq_true rfl) rfl ?_ (fun _ => ?_)
    · exact Ev.upn _ zc_4_X10_refused
    refine At.enter rfl ?_
    refine r_ireti ?_
    exact ⟨congrArg (fun z => some (Value.int z)) (by have z0 : (0 : Int32).toInt = 0 := rfl; have z1 : (1 : Int32).toInt = 1 := rfl; have z2 : (-1 : Int32).toInt = -1 := rfl; have z4 : (4 : Int32).toInt = 4 := rfl; have z5 : (5 : Int32).toInt = 5 := rfl; unfold sp_image; (repeat' split) <;> first | rfl | omega | (refine Int32.toInt_inj.mp ?_; omega)), (IsX.set (IsX.set IsX.base (by decide)) (by decide)), rfl⟩
  · refine Ev.mk rfl rfl ⟨Nat.le_of_ble_eq_true rfl, Or.inr (en_rcI hx_0 rfl)⟩ ?_
    show At _ none _ _ (0, [(0, .ref 0), (1, .int a1)], [], (hp_X ++ hp_M, 51333)) _
    refine At.enter rfl ?_
    refine r_aload_n rfl ?_
    refine r_iload_n rfl ?_
    refine r_callV1s (((a1).toInt ≥ (0)) ∧ ((a1).toInt > (1))) (.null) (hp_X ++ hp_M, 51333) 5 rfl [.ref 0, .int a1] [] (Nat.le_of_ble_eq_true rfl) rfl ?_ (fun ⟨c2_, c3_⟩ => ?_)
    · refine Ev.mk rfl rfl ⟨Nat.le_of_ble_eq_true rfl, Or.inr (en_rcI hx_0 rfl)⟩ ?_
      show At _ none _ _ (0, [(0, .ref 0), (1, .int a1)], [], (hp_X ++ hp_M, 51333)) _
      refine At.enter rfl ?_
      refine r_iload_n rfl ?_
      refine r_iconst 0 rfl ?_
      refine r_iconst 1 rfl ?_
      refine r_callS1s (((a1).toInt ≥ (0)) ∧ ((a1).toInt > (1))) (.int 0) (hp_X ++ hp_M, 51333) 6 rfl [.int a1, .int 0, .int 1] [] (Nat.le_of_ble_eq_true rfl) rfl ?_ (fun ⟨c2_, c3_⟩ => ?_)
      · refine Ev.mk rfl rfl ⟨Nat.le_of_ble_eq_true rfl, Or.inl rfl⟩ ?_
        show At _ none _ _ (0, [(0, .int a1), (1, .int 0), (2, .int 1)], [], (hp_X ++ hp_M, 51333)) _
        refine At.enter rfl ?_
        refine r_iload_n rfl ?_
        refine r_iload_n rfl ?_
        refine r_ics 5 rfl (fun c2 => ?_) (fun c2 => ?_)
        · have c2_ : (a1).toInt < (0) := (by have z := en_i_lt_t c2; (try simp only [Int32.toInt_toInt64] at z); exact z)
          exfalso; omega
        · have c2_ : (a1).toInt ≥ (0) := (by have z := en_i_lt_f c2; (try simp only [Int32.toInt_toInt64] at z); exact z)
          refine At.enter rfl ?_
          refine r_iload_n rfl ?_
          refine r_iload_n rfl ?_
          refine r_ics 10 rfl (fun c3 => ?_) (fun c3 => ?_)
          · have c3_ : (a1).toInt > (1) := (by have z := en_i_gt_t c3; (try simp only [Int32.toInt_toInt64] at z); exact z)
            refine At.enter rfl ?_
            refine r_iconst 0 rfl ?_
            refine Ar.fall 15 rfl ?_
            refine At.enter rfl ?_
            refine r_iretz (by decide) ?_
            exact ⟨⟨c2_, c3_⟩, rfl, rfl⟩
          · have c3_ : (a1).toInt ≤ (1) := (by have z := en_i_gt_f c3; (try simp only [Int32.toInt_toInt64] at z); exact z)
            exfalso; omega
      refine At.enter rfl ?_
      refine r_ift (by decide) ?_
      refine At.enter rfl ?_
      refine r_null ?_
      refine Ar.fall 19 rfl ?_
      refine At.enter rfl ?_
      refine r_zret ?_
      exact ⟨⟨c2_, c3_⟩, rfl, rfl⟩
    refine At.enter rfl ?_
    refine r_zstore_n ([(2, .null), (0, .ref 0), (1, .int a1)]) rfl ?_
    refine r_zload_n rfl ?_
    refine r_nnz 10 rfl ?_
    refine At.enter rfl ?_
    refine r_aload_n rfl ?_
    refine r_iconst (-1) rfl ?_
    refine r_callV1s (True) (.int (-1)) (((hp_X ++ hp_M).set 0 (.inr (10, [.ref 1, .ref 58, .ref 173, .ref 174, .ref 176, .ref 184, .ref 188, .ref 204, .ref 220, .ref 222, .ref 223, .ref 228, .ref 229, .ref 230, .int 0, .int 0, .int 0, .int (-1)]))).set 230 (.inl (0, .inl ([0, 1, 0, 0, 0, 0, 0]))), 51333) 15 rfl [.ref 0, .int (-1)] [] (Nat.le_of_ble_eq_true rfl) rfl ?_ (fun _ => ?_)
    · exact Ev.upn _ zc_4_X10_refused
    refine At.enter rfl ?_
    refine r_ireti ?_
    exact ⟨congrArg (fun z => some (Value.int z)) (by have z0 : (0 : Int32).toInt = 0 := rfl; have z1 : (1 : Int32).toInt = 1 := rfl; have z2 : (-1 : Int32).toInt = -1 := rfl; have z4 : (4 : Int32).toInt = 4 := rfl; have z5 : (5 : Int32).toInt = 5 := rfl; unfold sp_image; (repeat' split) <;> first | rfl | omega | (refine Int32.toInt_inj.mp ?_; omega)), (IsX.set (IsX.set IsX.base (by decide)) (by decide)), rfl⟩
