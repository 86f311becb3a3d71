theorem en_run_dp {IS : List en_I} {BS : List en_Bs} {F : Nat} : ∀ {d i : Nat} {as : List Value} {h : en_H} {w : Option Value × en_H}, en_run IS BS d F i as h = some w → en_run IS BS (d + 1) F i as h = some w
  | 0, i, as, h, w, hs => by cases hs
  | d + 1, i, as, h, w, hs => by
    have hk : ∀ e, (∀ i as h w, en_run IS BS d F i as h = some w → en_run IS BS e F i as h = some w) → en_run IS BS (e + 1) F i as h = some w := by
      intro e he
      unfold en_run at hs ⊢
      cases hJ : IS[i]? with
      | none => rw [hJ] at hs; cases hs
      | some J =>
        cases hb : BS[i]? with
        | none => rw [hJ, hb] at hs; cases hs
        | some bs =>
          rw [hJ, hb] at hs
          dsimp only at hs ⊢
          split at hs
          · rename_i hc
            rw [if_pos hc]
            exact en_go_up (fun i as h w hw => he _ _ _ _ hw) (Nat.le_refl _) hs
          · cases hs
    exact hk (d + 1) (fun i as h w hw => en_run_dp hw)
theorem Ev.upn {d i : Nat} {as : List Value} {h : en_H} {Ph : Option Value → en_H → Prop} : ∀ (k : Nat), Ev d i as h Ph → Ev (k + d) i as h Ph
  | 0, hs => by rw [Nat.zero_add]; exact hs
  | k + 1, hs => by
    obtain ⟨F, w, h1, h2⟩ := Ev.upn k hs
    rw [Nat.add_right_comm]
    exact ⟨F, w, en_run_dp h1, h2⟩
theorem zr_of {d i : Nat} {as : List Value} {h : en_H} {H : List en_E} {N : Nat} (F : Nat) (hr : (match en_run en_IS en_BS d F i as h with | some w => w.1.isNone && en_eqL w.2.1 H && decide (w.2.2 = N) | none => false) = true) : Ev d i as h (fun r h' => True ∧ r = none ∧ h' = (H, N)) := by
  cases hw : en_run en_IS en_BS d F i as h with
  | none => rw [hw] at hr; cases hr
  | some w =>
    rw [hw] at hr
    obtain ⟨r, g, M⟩ := w
    simp only [Bool.and_eq_true, decide_eq_true_eq] at hr
    obtain ⟨⟨e1, e2⟩, e3⟩ := hr
    refine ⟨F, _, hw, trivial, ?_, ?_⟩
    · cases r with
      | none => rfl
      | some v => cases e1
    · show (g, M) = _
      rw [en_eqL_eq e2, e3]
