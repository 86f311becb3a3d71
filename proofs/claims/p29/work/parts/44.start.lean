theorem hpW_sh : Sh w_0 := by unfold Sh; decide +kernel
theorem lkF_mem : ∀ {T : List ((Nat × Nat) × (Int × Int))} {p b : Nat} {r : Int × Int}, lkF T p b = some r → ((p, b), r) ∈ T
  | [], p, b, r, h => by cases h
  | q :: T, p, b, r, h => by
    unfold lkF at h
    by_cases e : (Nat.beq q.1.1 p && Nat.beq q.1.2 b) = true
    · rw [e] at h
      rw [Bool.and_eq_true] at e
      have e1 : q.2 = r := Option.some.inj h
      have e2 : q = ((p, b), r) := by rw [← Nat.eq_of_beq_eq_true e.1, ← Nat.eq_of_beq_eq_true e.2, ← e1]
      rw [e2]
      exact List.mem_cons_self ..
    · rw [Bool.eq_false_iff.mpr e] at h
      exact List.mem_cons_of_mem _ (lkF_mem h)
theorem lkA_mem : ∀ {T : List (Nat × (Int × Int))} {p : Nat} {r : Int × Int}, lkA T p = some r → (p, r) ∈ T
  | [], p, r, h => by cases h
  | q :: T, p, r, h => by
    unfold lkA at h
    by_cases e : Nat.beq q.1 p = true
    · rw [e] at h
      have e1 : q.2 = r := Option.some.inj h
      have e2 : q = (p, r) := by rw [← Nat.eq_of_beq_eq_true e, ← e1]
      rw [e2]
      exact List.mem_cons_self ..
    · rw [Bool.eq_false_iff.mpr e] at h
      exact List.mem_cons_of_mem _ (lkA_mem h)
theorem hpW_F : rgFt.all (fun q => decide (q.2.1 ≤ (gI w_0 q.1.1 q.1.2).toInt) && decide ((gI w_0 q.1.1 q.1.2).toInt ≤ q.2.2)) = true := by decide +kernel
theorem hpW_A : rgAt.all (fun q => (gA w_0 q.1).all (fun x => decide (q.2.1 ≤ x.toInt) && decide (x.toInt ≤ q.2.2))) = true := by decide +kernel
theorem hpW_233 : gA w_0 233 = [0, 0, 0, -1, 0, 60, 2] ++ List.replicate 5503 0 := by unfold gA; rw [hx_233]
theorem hpW_235 : gA w_0 235 = [0, 0] := by unfold gA; rw [hx_235]
theorem hpW_z (j : Int) (h : 7 ≤ j) : (rd ([0, 0, 0, -1, 0, 60, 2] ++ List.replicate 5503 0 : List Int32) j).toInt = 0 := by
  unfold rd
  rw [List.getD_eq_getElem?_getD, List.getElem?_append_right (by show 7 ≤ j.toNat; omega), List.getElem?_replicate]
  split <;> rfl
theorem hpW_HI : HI w_0 := by
  refine ⟨hpW_sh, ⟨fun p b r h => ?_, by unfold gK; rw [hx_242]; rfl, by unfold gK; rw [hx_243]; rfl⟩, fun p r h x hx => ?_, ?_⟩
  · have h1 := List.all_eq_true.mp hpW_F _ (lkF_mem h)
    rw [Bool.and_eq_true, decide_eq_true_eq, decide_eq_true_eq] at h1
    exact h1
  · have h1 := List.all_eq_true.mp (List.all_eq_true.mp hpW_A _ (lkA_mem h)) x hx
    rw [Bool.and_eq_true, decide_eq_true_eq, decide_eq_true_eq] at h1
    exact h1
  · rw [hpW_233, hpW_235]
    refine ⟨⟨by unfold WfTop; decide, fun s s0 s1 => ?_, ⟨by decide, fun l l0 l1 => ?_⟩, fun k k0 k1 => ?_, fun j j0 j1 => ?_⟩, fun k k0 k1 hz => ?_⟩
    · have f0 : (rd ([0, 0, 0, -1, 0, 60, 2] ++ List.replicate 5503 0 : List Int32) 0).toInt = 0 := rfl
      dsimp only
      rw [hpW_z (10 + 3 * s) (by omega), hpW_z (10 + 3 * s + 1) (by omega), hpW_z (10 + 3 * s + 2) (by omega), f0]
      omega
    · have f0 : (rd ([0, 0, 0, -1, 0, 60, 2] ++ List.replicate 5503 0 : List Int32) 0).toInt = 0 := rfl
      dsimp only
      rw [hpW_z (46 + 6 * l) (by omega), hpW_z (46 + 6 * l + 1) (by omega), hpW_z (46 + 6 * l + 2) (by omega), hpW_z (46 + 6 * l + 3) (by omega), hpW_z (46 + 6 * l + 4) (by omega), hpW_z (46 + 6 * l + 5) (by omega), f0]
      omega
    · dsimp only
      rw [hpW_z (94 + 2 * k) (by omega), hpW_z (94 + 2 * k + 1) (by omega)]
      omega
    · have f2 : (rd ([0, 0, 0, -1, 0, 60, 2] ++ List.replicate 5503 0 : List Int32) 2).toInt = 0 := rfl
      dsimp only at j1
      rw [f2] at j1
      exact absurd j1 (by omega)
    · have e : k = 0 ∨ k = 1 := by omega
      rcases e with rfl | rfl <;> exact absurd rfl hz
theorem hpW_len {g : List en_E} (h : HI g) : g.length = 259 := by
  rw [← en_eqR_len h.1, List.length_append, hp_Xl, hp_Ml]
theorem hpW_R : LwR w_0 := by
  unfold LwR
  have h235 := hpW_235
  have h233 := hpW_233
  unfold eA gI
  rw [hpW_233, hpW_235]
  exact ⟨by decide +kernel, by decide +kernel, by decide +kernel, by decide +kernel, by decide +kernel, by decide +kernel, by decide +kernel, by decide +kernel, by decide +kernel, by decide +kernel, by decide +kernel, by decide +kernel, fun h => absurd (by decide +kernel) h, fun h => absurd (by decide +kernel) h, CT.start, CI0.start, CI1.start, RT.start, BYX.start, LAWR.start, SETX_z (by decide +kernel)⟩
theorem zr_of {d i : Nat} {as : List Value} {h : en_H} {H : List en_E} {N : Nat} (F : Nat) (hr : (match en_run en_IS en_BS d F i as h with | some w => w.1.isNone && en_eqL w.2.1 H && decide (w.2.2 = N) | none => false) = true) : Ev d i as h (fun r h' => True ∧ r = none ∧ h' = (H, N)) := by
  cases hw : en_run en_IS en_BS d F i as h with
  | none => rw [hw] at hr; cases hr
  | some w =>
    rw [hw] at hr
    obtain ⟨r, g, M⟩ := w
    simp only [Bool.and_eq_true, decide_eq_true_eq] at hr
    obtain ⟨⟨e1, e2⟩, e3⟩ := hr
    refine ⟨F, _, hw, trivial, ?_, ?_⟩
    · cases r with
      | none => rfl
      | some v => cases e1
    · show (g, M) = _
      rw [en_eqL_eq e2, e3]
theorem en_run_dp {IS : List en_I} {BS : List en_Bs} {F : Nat} : ∀ {d i : Nat} {as : List Value} {h : en_H} {w : Option Value × en_H}, en_run IS BS d F i as h = some w → en_run IS BS (d + 1) F i as h = some w
  | 0, i, as, h, w, hs => by cases hs
  | d + 1, i, as, h, w, hs => by
    have hk : ∀ e, (∀ i as h w, en_run IS BS d F i as h = some w → en_run IS BS e F i as h = some w) → en_run IS BS (e + 1) F i as h = some w := by
      intro e he
      unfold en_run at hs ⊢
      cases hJ : IS[i]? with
      | none => rw [hJ] at hs; cases hs
      | some J =>
        cases hb : BS[i]? with
        | none => rw [hJ, hb] at hs; cases hs
        | some bs =>
          rw [hJ, hb] at hs
          dsimp only at hs ⊢
          split at hs
          · rename_i hc
            rw [if_pos hc]
            exact en_go_up (fun i as h w hw => he _ _ _ _ hw) (Nat.le_refl _) hs
          · cases hs
    exact hk (d + 1) (fun i as h w hw => en_run_dp hw)
theorem Ev.upn {d i : Nat} {as : List Value} {h : en_H} {Ph : Option Value → en_H → Prop} : ∀ (k : Nat), Ev d i as h Ph → Ev (k + d) i as h Ph
  | 0, hs => by rw [Nat.zero_add]; exact hs
  | k + 1, hs => by
    obtain ⟨F, w, h1, h2⟩ := Ev.upn k hs
    rw [Nat.add_right_comm]
    exact ⟨F, w, en_run_dp h1, h2⟩
theorem r_new {d : Nat} {xs : Option (List Int32)} {rt : Option FieldType} {bs : en_Bs} {r : List en_Op} {n a b c pc z : Nat} {l : en_L} {st : List Value} {g : List en_E} {N : Nat} {Ph : Option Value → en_H → Prop} (p N' : Nat) (hp : g.length = p) (hN : N + (en_dflt a).length = N') (k : Ar d xs rt bs r (pc + n, l, .ref p :: st, (g ++ [.inr (a, en_dflt a)], N')) Ph) : Ar d xs rt bs ((.new z, n, a, b, c) :: r) (pc, l, st, (g, N)) Ph := by
  subst hp
  subst hN
  exact Ar.plain (q := (l, .ref g.length :: st, (g ++ [.inr (a, en_dflt a)], N + (en_dflt a).length))) rfl rfl k
set_option maxRecDepth 100000 in
theorem lw_j1 : Ev 8 103 [.ref 0] ([.inr (10, en_dflt 10)], 18) (fun r h' => True ∧ r = none ∧ h' = (hp_X, 31312)) := zr_of 2000 (by decide +kernel)
set_option maxRecDepth 100000 in
theorem lw_j2 : Ev 8 158 [.ref 231] (hp_X ++ [.inr (11, en_dflt 11)], 31364) (fun r h' => True ∧ r = none ∧ h' = (hp_X ++ hp_M, 51333)) := zr_of 2000 (by decide +kernel)
theorem lw_i1 : Ev 423 103 [.ref 0] (([] : List en_E) ++ [.inr (10, en_dflt 10)], 18) (fun r h' => True ∧ r = none ∧ h' = (hp_X, 31312)) := Ev.upn 415 lw_j1
theorem lw_i2 : Ev 423 158 [.ref 231] (hp_X ++ [.inr (11, en_dflt 11)], 31364) (fun r h' => True ∧ r = none ∧ h' = (hp_X ++ hp_M, 51333)) := Ev.upn 415 lw_j2
theorem lw_start {ys : List Int32} {Ph : Option Value → en_H → Prop} (k : At 423 (some ys) (some .boolean) bs_L_law (18, [(3, .int 0), (2, .ref 231), (1, .ref 0), (0, .float 0)], [], (hp_X ++ hp_M, 51333)) Ph) : At 423 (some ys) (some .boolean) bs_L_law (0, [(0, .float 0)], [], ([], 0)) Ph := by
  refine At.enter rfl ?_
  refine r_new 0 18 rfl rfl ?_
  refine r_dup rfl ?_
  refine r_callI1v True (hp_X, 31312) 7 rfl [.ref 0] [.ref 0] (Nat.le_of_ble_eq_true rfl) rfl lw_i1 (fun _ => ?_)
  refine At.enter rfl ?_
  refine r_astore_n ([(1, .ref 0), (0, .float 0)]) rfl ?_
  refine r_new 231 31364 hp_Xl (by decide +kernel) ?_
  refine r_dup rfl ?_
  refine r_callI1v True (hp_X ++ hp_M, 51333) 15 rfl [.ref 231] [.ref 231] (Nat.le_of_ble_eq_true rfl) rfl lw_i2 (fun _ => ?_)
  refine At.enter rfl ?_
  refine r_astore_n ([(2, .ref 231), (1, .ref 0), (0, .float 0)]) rfl ?_
  refine r_iconst 0 rfl ?_
  refine r_istore_n ([(3, .int 0), (2, .ref 231), (1, .ref 0), (0, .float 0)]) rfl ?_
  refine Ar.fall 18 rfl ?_
  exact k
