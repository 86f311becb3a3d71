/-! ===== runs of the engine, row by row ===== -/
theorem en_go_up {IS : List en_I} {BS : List en_Bs} {cf cf' : Nat → List Value → en_H → Option (Option Value × en_H)} {xs : Option (List Int32)} {ret : Option FieldType} {bs : en_Bs} (hcf : ∀ i as h w, cf i as h = some w → cf' i as h = some w) : ∀ {f f' : Nat} {c : en_C} {w : Option Value × en_H}, f ≤ f' → en_go IS BS cf xs ret bs f c = some w → en_go IS BS cf' xs ret bs f' c = some w
  | 0, f', c, w, hf, hs => by cases hs
  | f + 1, 0, c, w, hf, hs => absurd hf (by omega)
  | f + 1, f' + 1, c, w, hf, hs => by
    unfold en_go at hs ⊢
    cases hl : en_lk c.1 bs with
    | none => rw [hl] at hs; cases hs
    | some ops =>
      rw [hl] at hs
      dsimp only at hs ⊢
      cases hr : en_rb xs ret ops c with
      | none => rw [hr] at hs; cases hs
      | some x =>
        rw [hr] at hs
        rcases x with c' | ⟨op, c'⟩ | w'
        · dsimp only at hs ⊢
          exact en_go_up hcf (by omega) hs
        · dsimp only at hs ⊢
          cases hq : en_take op c'.2.2.1 with
          | none => rw [hq] at hs; cases hs
          | some q =>
            rw [hq] at hs
            dsimp only at hs ⊢
            cases hw : cf op.2.2.1 q.1 c'.2.2.2 with
            | none => rw [hw] at hs; cases hs
            | some w1 =>
              rw [hw] at hs
              rw [hcf _ _ _ _ hw]
              dsimp only at hs ⊢
              exact en_go_up hcf (by omega) hs
        · exact hs
theorem en_run_up {IS : List en_I} {BS : List en_Bs} {F F' : Nat} (hF : F ≤ F') : ∀ {d i : Nat} {as : List Value} {h : en_H} {w : Option Value × en_H}, en_run IS BS d F i as h = some w → en_run IS BS d F' i as h = some w
  | 0, i, as, h, w, hs => by cases hs
  | d + 1, i, as, h, w, hs => by
    unfold en_run at hs ⊢
    cases hJ : IS[i]? with
    | none => rw [hJ] at hs; cases hs
    | some J =>
      cases hb : BS[i]? with
      | none => rw [hJ, hb] at hs; cases hs
      | some bs =>
        rw [hJ, hb] at hs
        dsimp only at hs ⊢
        split at hs
        · rename_i hc
          rw [if_pos hc]
          exact en_go_up (fun i as h w hw => en_run_up hF hw) hF hs
        · cases hs
def At (d : Nat) (xs : Option (List Int32)) (ret : Option FieldType) (bs : en_Bs) (c : en_C) (Ph : Option Value → en_H → Prop) : Prop := ∃ (F f : Nat) (w : Option Value × en_H), en_go en_IS en_BS (en_run en_IS en_BS d F) xs ret bs f c = some w ∧ Ph w.1 w.2
def Ev (d i : Nat) (as : List Value) (h : en_H) (Ph : Option Value → en_H → Prop) : Prop := ∃ (F : Nat) (w : Option Value × en_H), en_run en_IS en_BS d F i as h = some w ∧ Ph w.1 w.2
section PR
variable {d i : Nat} {xs : Option (List Int32)} {rt : Option FieldType} {bs : en_Bs} {c c' : en_C} {Ph Ps : Option Value → en_H → Prop} {ops : List en_Op} {as : List Value} {h : en_H}
theorem At.go (hl : en_lk c.1 bs = some ops) (hb : en_rb xs rt ops c = some (.inl c')) (k : At d xs rt bs c' Ph) : At d xs rt bs c Ph := by
  obtain ⟨F, f, w, h1, h2⟩ := k
  refine ⟨F, f + 1, w, ?_, h2⟩
  unfold en_go
  rw [hl]
  dsimp only
  rw [hb]
  exact h1
theorem At.rtn {w : Option Value × en_H} (hl : en_lk c.1 bs = some ops) (hb : en_rb xs rt ops c = some (.inr (.inr w))) (k : Ph w.1 w.2) : At d xs rt bs c Ph := by
  refine ⟨0, 1, w, ?_, k⟩
  unfold en_go
  rw [hl]
  dsimp only
  rw [hb]
theorem At.call {op : en_Op} {q : List Value × List Value} (hl : en_lk c.1 bs = some ops) (hb : en_rb xs rt ops c = some (.inr (.inl (op, c')))) (hq : en_take op c'.2.2.1 = some q) (hE : Ev d op.2.2.1 q.1 c'.2.2.2 Ps) (k : ∀ (r : Option Value) (h' : en_H), Ps r h' → At d xs rt bs (c'.1 + 3, c'.2.1, r.toList ++ q.2, h') Ph) : At d xs rt bs c Ph := by
  obtain ⟨F1, w1, e1, p1⟩ := hE
  obtain ⟨F2, f2, w2, e2, p2⟩ := k w1.1 w1.2 p1
  refine ⟨max F1 F2, f2 + 1, w2, ?_, p2⟩
  unfold en_go
  rw [hl]
  dsimp only
  rw [hb]
  dsimp only
  rw [hq]
  dsimp only
  rw [en_run_up (Nat.le_max_left F1 F2) e1]
  exact en_go_up (fun i as h w hw => en_run_up (Nat.le_max_right F1 F2) hw) (Nat.le_refl _) e2
theorem At.bif {b : Bool} {t f : Nat} {l : en_L} {st : List Value} (k1 : b = true → At d xs rt bs (t, l, st, h) Ph) (k2 : b = false → At d xs rt bs (f, l, st, h) Ph) : At d xs rt bs (bif b then t else f, l, st, h) Ph := by
  cases b with
  | true => exact k1 rfl
  | false => exact k2 rfl
theorem At.imp (k : At d xs rt bs c Ps) (hi : ∀ r h, Ps r h → Ph r h) : At d xs rt bs c Ph := by
  obtain ⟨F, f, w, h1, h2⟩ := k
  exact ⟨F, f, w, h1, hi _ _ h2⟩
theorem Ev.imp (k : Ev d i as h Ps) (hi : ∀ r h, Ps r h → Ph r h) : Ev d i as h Ph := by
  obtain ⟨F, w, h1, h2⟩ := k
  exact ⟨F, w, h1, hi _ _ h2⟩
theorem Ev.mk {J : en_I} (hJ : en_IS[i]? = some J) (hbs : en_BS[i]? = some bs) (hc : (lg_sl as).length ≤ J.2.2.1 ∧ (J.2.2.2.2.2 = 1 ∨ en_rc J as h = true)) (k : At d none J.2.2.2.1 bs (0, lv_args 0 as, [], h) Ph) : Ev (d + 1) i as h Ph := by
  obtain ⟨F, f, w, h1, h2⟩ := k
  refine ⟨max F f, w, ?_, h2⟩
  unfold en_run
  rw [hJ, hbs]
  dsimp only
  rw [if_pos hc]
  exact en_go_up (fun i as h w hw => en_run_up (Nat.le_max_left F f) hw) (Nat.le_max_right F f) h1
/-- a run that a program has done -/
theorem Ev.run (F : Nat) {P : Option Value → en_H → Bool} (hr : (match en_run en_IS en_BS d F i as h with | some w => P w.1 w.2 | none => false) = true) : Ev d i as h (fun r h' => P r h' = true) := by
  cases hw : en_run en_IS en_BS d F i as h with
  | none => rw [hw] at hr; cases hr
  | some w =>
    rw [hw] at hr
    exact ⟨F, w, hw, hr⟩
end PR
/-! ===== what a branch tells ===== -/
theorem en_k_eq_t {x : Int32} (h : en_c1 .eq x = true) : x.toInt = 0 := by
  have h2 : x = 0 := of_decide_eq_true h
  rw [h2]; rfl
theorem en_k_eq_f {x : Int32} (h : en_c1 .eq x = false) : x.toInt ≠ 0 := by
  have h2 : ¬ x = 0 := of_decide_eq_false h
  exact fun q => h2 (Int32.toInt_inj.mp q)
theorem en_k_ne_t {x : Int32} (h : en_c1 .ne x = true) : x.toInt ≠ 0 := by
  have h2 : ¬ x = 0 := of_decide_eq_true h
  exact fun q => h2 (Int32.toInt_inj.mp q)
theorem en_k_ne_f {x : Int32} (h : en_c1 .ne x = false) : x.toInt = 0 := by
  have h2 : ¬ ¬ x = 0 := of_decide_eq_false h
  rw [Decidable.of_not_not h2]; rfl
theorem en_k_lt_t {x : Int32} (h : en_c1 .lt x = true) : x.toInt < 0 := Int32.lt_iff_toInt_lt.mp (of_decide_eq_true h)
theorem en_k_lt_f {x : Int32} (h : en_c1 .lt x = false) : x.toInt ≥ 0 := by
  have h2 : ¬ x < 0 := of_decide_eq_false h
  exact Int.not_lt.mp (fun q => h2 (Int32.lt_iff_toInt_lt.mpr q))
theorem en_k_ge_t {x : Int32} (h : en_c1 .ge x = true) : x.toInt ≥ 0 := Int32.le_iff_toInt_le.mp (of_decide_eq_true h)
theorem en_k_ge_f {x : Int32} (h : en_c1 .ge x = false) : x.toInt < 0 := by
  have h2 : ¬ 0 ≤ x := of_decide_eq_false h
  exact Int.not_le.mp (fun q => h2 (Int32.le_iff_toInt_le.mpr q))
theorem en_k_gt_t {x : Int32} (h : en_c1 .gt x = true) : x.toInt > 0 := Int32.lt_iff_toInt_lt.mp (of_decide_eq_true h)
theorem en_k_gt_f {x : Int32} (h : en_c1 .gt x = false) : x.toInt ≤ 0 := by
  have h2 : ¬ 0 < x := of_decide_eq_false h
  exact Int.not_lt.mp (fun q => h2 (Int32.lt_iff_toInt_lt.mpr q))
theorem en_k_le_t {x : Int32} (h : en_c1 .le x = true) : x.toInt ≤ 0 := Int32.le_iff_toInt_le.mp (of_decide_eq_true h)
theorem en_k_le_f {x : Int32} (h : en_c1 .le x = false) : x.toInt > 0 := by
  have h2 : ¬ x ≤ 0 := of_decide_eq_false h
  exact Int.not_le.mp (fun q => h2 (Int32.le_iff_toInt_le.mpr q))
theorem en_i_eq_t {x y : Int32} (h : en_c2 .eq x y = true) : x.toInt = y.toInt := by
  have h2 : x = y := of_decide_eq_true h
  rw [h2]
theorem en_i_eq_f {x y : Int32} (h : en_c2 .eq x y = false) : x.toInt ≠ y.toInt := by
  have h2 : ¬ x = y := of_decide_eq_false h
  exact fun q => h2 (Int32.toInt_inj.mp q)
theorem en_i_ne_t {x y : Int32} (h : en_c2 .ne x y = true) : x.toInt ≠ y.toInt := by
  have h2 : ¬ x = y := of_decide_eq_true h
  exact fun q => h2 (Int32.toInt_inj.mp q)
theorem en_i_ne_f {x y : Int32} (h : en_c2 .ne x y = false) : x.toInt = y.toInt := by
  have h2 : ¬ ¬ x = y := of_decide_eq_false h
  rw [Decidable.of_not_not h2]
theorem en_i_lt_t {x y : Int32} (h : en_c2 .lt x y = true) : x.toInt < y.toInt := Int32.lt_iff_toInt_lt.mp (of_decide_eq_true h)
theorem en_i_lt_f {x y : Int32} (h : en_c2 .lt x y = false) : x.toInt ≥ y.toInt := by
  have h2 : ¬ x < y := of_decide_eq_false h
  exact Int.not_lt.mp (fun q => h2 (Int32.lt_iff_toInt_lt.mpr q))
theorem en_i_ge_t {x y : Int32} (h : en_c2 .ge x y = true) : x.toInt ≥ y.toInt := Int32.le_iff_toInt_le.mp (of_decide_eq_true h)
theorem en_i_ge_f {x y : Int32} (h : en_c2 .ge x y = false) : x.toInt < y.toInt := by
  have h2 : ¬ y ≤ x := of_decide_eq_false h
  exact Int.not_le.mp (fun q => h2 (Int32.le_iff_toInt_le.mpr q))
theorem en_i_gt_t {x y : Int32} (h : en_c2 .gt x y = true) : x.toInt > y.toInt := Int32.lt_iff_toInt_lt.mp (of_decide_eq_true h)
theorem en_i_gt_f {x y : Int32} (h : en_c2 .gt x y = false) : x.toInt ≤ y.toInt := by
  have h2 : ¬ y < x := of_decide_eq_false h
  exact Int.not_lt.mp (fun q => h2 (Int32.lt_iff_toInt_lt.mpr q))
theorem en_i_le_t {x y : Int32} (h : en_c2 .le x y = true) : x.toInt ≤ y.toInt := Int32.le_iff_toInt_le.mp (of_decide_eq_true h)
theorem en_i_le_f {x y : Int32} (h : en_c2 .le x y = false) : x.toInt > y.toInt := by
  have h2 : ¬ x ≤ y := of_decide_eq_false h
  exact Int.not_le.mp (fun q => h2 (Int32.le_iff_toInt_le.mpr q))
theorem en_cmp0 (x y : Int64) : (lg_cmp x y).toInt = if x.toInt < y.toInt then -1 else if y.toInt < x.toInt then 1 else 0 := by
  rcases lg_tri x y with h | h | h
  · have e : lg_cmp x y < 0 := (lg_cmp_lt x y).mpr h
    have h1 := Int64.lt_iff_toInt_lt.mp h
    rw [if_pos h1]
    have e2 : lg_cmp x y = -1 := by simp [lg_cmp, lg_lt_not h, lg_lt_ne h]
    rw [e2]; rfl
  · subst h
    rw [if_neg (Int.lt_irrefl _), if_neg (Int.lt_irrefl _)]
    have e2 : lg_cmp x x = 0 := (lg_cmp_eq x x).mpr rfl
    rw [e2]; rfl
  · have h1 := Int64.lt_iff_toInt_lt.mp h
    rw [if_neg (by omega), if_pos h1]
    have e2 : lg_cmp x y = 1 := by simp [lg_cmp, h]
    rw [e2]; rfl
theorem en_j_eq_t {x y : Int64} (h : en_c1 .eq (lg_cmp x y) = true) : x.toInt = y.toInt := by
  have h1 := en_k_eq_t h
  rw [en_cmp0] at h1
  split at h1 <;> (try split at h1) <;> omega
theorem en_j_eq_f {x y : Int64} (h : en_c1 .eq (lg_cmp x y) = false) : x.toInt ≠ y.toInt := by
  have h1 := en_k_eq_f h
  rw [en_cmp0] at h1
  split at h1 <;> (try split at h1) <;> omega
theorem en_j_ne_t {x y : Int64} (h : en_c1 .ne (lg_cmp x y) = true) : x.toInt ≠ y.toInt := by
  have h1 := en_k_ne_t h
  rw [en_cmp0] at h1
  split at h1 <;> (try split at h1) <;> omega
theorem en_j_ne_f {x y : Int64} (h : en_c1 .ne (lg_cmp x y) = false) : x.toInt = y.toInt := by
  have h1 := en_k_ne_f h
  rw [en_cmp0] at h1
  split at h1 <;> (try split at h1) <;> omega
theorem en_j_lt_t {x y : Int64} (h : en_c1 .lt (lg_cmp x y) = true) : x.toInt < y.toInt := by
  have h1 := en_k_lt_t h
  rw [en_cmp0] at h1
  split at h1 <;> (try split at h1) <;> omega
theorem en_j_lt_f {x y : Int64} (h : en_c1 .lt (lg_cmp x y) = false) : x.toInt ≥ y.toInt := by
  have h1 := en_k_lt_f h
  rw [en_cmp0] at h1
  split at h1 <;> (try split at h1) <;> omega
theorem en_j_ge_t {x y : Int64} (h : en_c1 .ge (lg_cmp x y) = true) : x.toInt ≥ y.toInt := by
  have h1 := en_k_ge_t h
  rw [en_cmp0] at h1
  split at h1 <;> (try split at h1) <;> omega
theorem en_j_ge_f {x y : Int64} (h : en_c1 .ge (lg_cmp x y) = false) : x.toInt < y.toInt := by
  have h1 := en_k_ge_f h
  rw [en_cmp0] at h1
  split at h1 <;> (try split at h1) <;> omega
theorem en_j_gt_t {x y : Int64} (h : en_c1 .gt (lg_cmp x y) = true) : x.toInt > y.toInt := by
  have h1 := en_k_gt_t h
  rw [en_cmp0] at h1
  split at h1 <;> (try split at h1) <;> omega
theorem en_j_gt_f {x y : Int64} (h : en_c1 .gt (lg_cmp x y) = false) : x.toInt ≤ y.toInt := by
  have h1 := en_k_gt_f h
  rw [en_cmp0] at h1
  split at h1 <;> (try split at h1) <;> omega
theorem en_j_le_t {x y : Int64} (h : en_c1 .le (lg_cmp x y) = true) : x.toInt ≤ y.toInt := by
  have h1 := en_k_le_t h
  rw [en_cmp0] at h1
  split at h1 <;> (try split at h1) <;> omega
theorem en_j_le_f {x y : Int64} (h : en_c1 .le (lg_cmp x y) = false) : x.toInt > y.toInt := by
  have h1 := en_k_le_f h
  rw [en_cmp0] at h1
  split at h1 <;> (try split at h1) <;> omega
