theorem r_alen {d : Nat} {xs : Option (List Int32)} {rt : Option FieldType} {bs : en_Bs} {r : List en_Op} {pc n a b c : Nat} {l : en_L} {st : List Value} {h : en_H} {Ph : Option Value → en_H → Prop} {p t : Nat} {x : en_A} (hp : h.1[p]? = some (.inl (t, x))) (ht : t < 5) (v : Int32) (hv : Int32.ofNat (en_sz x) = v) (k : Ar d xs rt bs r (pc + n, l, .int v :: st, h) Ph) : Ar d xs rt bs ((.arraylength, n, a, b, c) :: r) (pc, l, (.ref p :: st), h) Ph := by
  subst hv
  exact Ar.plain (q := (l, .int _ :: st, h)) rfl (by show en_alen xs l (.ref p :: st) h = _; simp only [en_alen, hp]; rw [if_pos ht]) k
/-! ===== loops of the reference over no LOADS ===== -/
theorem en_get_ne {k i : Nat} {x v : Value} (hk : k ≠ i) (hc : x.category = 1) : ∀ {l : en_L}, en_get k l = some x → en_get k (en_put1 i v l) = some x := by
  intro l h
  have hf : ∀ {l : en_L}, en_get k l = some x → en_get k (l.filter (fun q => !(q.1 == i) && !(q.1 + 1 == i && q.2.category == 2))) = some x := by
    intro l
    induction l with
    | nil => intro h; cases h
    | cons q r ih =>
      intro h
      unfold en_get at h
      by_cases hq : Nat.beq q.1 k = true
      · have e : q.1 = k := Nat.eq_of_beq_eq_true hq
        rw [hq] at h
        have hx : q.2 = x := Option.some.inj h
        rw [List.filter_cons_of_pos (by simp [e, hk, hx, hc])]
        unfold en_get
        rw [hq]
        exact h
      · have hq' : Nat.beq q.1 k = false := Bool.eq_false_iff.mpr hq
        rw [hq'] at h
        rw [List.filter_cons]
        split
        · unfold en_get
          rw [hq']
          exact ih h
        · exact ih h
  unfold en_put1
  unfold en_get
  have hq' : Nat.beq i k = false := by
    cases hb : Nat.beq i k with
    | false => rfl
    | true => exact absurd (Nat.eq_of_beq_eq_true hb).symm hk
  dsimp only
  rw [hq']
  exact hf h
theorem en_get_eq (i : Nat) (v : Value) (l : en_L) : en_get i (en_put1 i v l) = some v := by
  unfold en_put1 en_get
  dsimp only
  rw [show Nat.beq i i = true from Nat.beq_refl i]
  rfl
theorem en_inc {i : Int32} (h0 : 0 ≤ i.toInt) (h : i.toInt < 1000000) : (i + 1).toInt = i.toInt + 1 := by
  rw [Int32.toInt_add, show (1 : Int32).toInt = 1 from rfl]
  exact Int.bmod_eq_of_le (by omega) (by omega)
section LP
variable {g : List en_E} {N : Nat} {fs : List Value} {ROW : List Int32}
abbrev LpH (g : List en_E) (fs : List Value) (ROW : List Int32) : Prop := g[231]? = some (.inr (11, fs)) ∧ fs[3]? = some (.ref 233) ∧ g[233]? = some (.inl (0, .inl ROW)) ∧ ROW[1]? = some 0
theorem zr_first (d : Nat) (hh : LpH g fs ROW) : Ev (d + 1) 226 [.ref 231] (g, N) (fun r h' => True ∧ r = some (.int (-1)) ∧ h' = (g, N)) := by
  obtain ⟨h1, h2, h3, h4⟩ := hh
  refine Ev.mk rfl rfl ⟨Nat.le_of_ble_eq_true rfl, Or.inr (en_rcI h1 rfl)⟩ ?_
  show At _ none _ _ (0, [(0, .ref 231)], [], (g, N)) _
  refine At.enter rfl ?_
  refine r_iconst (-1) rfl ?_
  refine r_istore_n ([(1, .int (-1)), (0, .ref 231)]) rfl ?_
  refine r_iconst 0 rfl ?_
  refine r_istore_n ([(2, .int 0), (1, .int (-1)), (0, .ref 231)]) rfl ?_
  refine Ar.fall 4 rfl ?_
  refine At.enter rfl ?_
  refine r_iload_n rfl ?_
  refine r_aload_n rfl ?_
  refine r_get (v := .ref 233) h1 h2 ?_
  refine r_iconst 1 rfl ?_
  refine r_iald (v := 0) h3 (by decide) h4 ?_
  refine r_ict (by decide) ?_
  refine At.enter rfl ?_
  refine r_iload_n rfl ?_
  refine r_ireti ?_
  exact ⟨trivial, rfl, rfl⟩
theorem zr_bring_loop (d : Nat) (hh : LpH g fs ROW) (m : Int32) (hm : 0 ≤ m.toInt ∧ m.toInt < 100) : ∀ (n : Nat) (i : Int32) (l : en_L), i.toInt + n = m.toInt + 1 → 0 ≤ i.toInt → en_get 0 l = some (.ref 231) → en_get 1 l = some (.int m) → en_get 2 l = some (.int i) → At d none none bs_X11_bring (2, l, [], (g, N)) (fun r h' => True ∧ r = none ∧ h' = (g, N)) := by
  obtain ⟨h1, h2, h3, h4⟩ := hh
  intro n
  induction n with
  | zero =>
    intro i l e h0 g0 g1 g2
    refine At.enter rfl ?_
    refine r_iload_n g2 ?_
    refine r_iload_n g1 ?_
    refine r_ict (decide_eq_true (Int32.lt_iff_toInt_lt.mpr (by omega))) ?_
    refine At.enter rfl ?_
    refine r_vret ?_
    exact ⟨trivial, rfl, rfl⟩
  | succ n ih =>
    intro i l e h0 g0 g1 g2
    refine At.enter rfl ?_
    refine r_iload_n g2 ?_
    refine r_iload_n g1 ?_
    refine r_icf 7 rfl (decide_eq_false (fun h => by have := Int32.lt_iff_toInt_lt.mp h; omega)) ?_
    refine At.enter rfl ?_
    refine r_iconst 0 rfl ?_
    refine r_istore_n _ rfl ?_
    refine Ar.fall 9 rfl ?_
    refine At.enter rfl ?_
    refine r_iload_n (en_get_eq 3 _ _) ?_
    refine r_aload_n (en_get_ne (by decide) rfl g0) ?_
    refine r_get (v := .ref 233) h1 h2 ?_
    refine r_iconst 1 rfl ?_
    refine r_iald (v := 0) h3 (by decide) h4 ?_
    refine r_ict (by decide) ?_
    refine At.enter rfl ?_
    refine r_iinc (en_get_ne (by decide) rfl g2) (i + 1) rfl _ rfl ?_
    refine r_goto ?_
    refine ih (i + 1) _ ?_ ?_ (en_get_ne (by decide) rfl (en_get_ne (by decide) rfl g0)) (en_get_ne (by decide) rfl (en_get_ne (by decide) rfl g1)) (en_get_eq 2 _ _)
    · rw [en_inc h0 (by omega)]; omega
    · rw [en_inc h0 (by omega)]; omega
theorem zr_bring (d : Nat) (hh : LpH g fs ROW) (m : Int32) (hm : 0 ≤ m.toInt ∧ m.toInt < 100) : Ev (d + 1) 227 [.ref 231, .int m] (g, N) (fun r h' => True ∧ r = none ∧ h' = (g, N)) := by
  refine Ev.mk rfl rfl ⟨Nat.le_of_ble_eq_true rfl, Or.inr (en_rcI hh.1 rfl)⟩ ?_
  show At _ none _ _ (0, [(0, .ref 231), (1, .int m)], [], (g, N)) _
  refine At.enter rfl ?_
  refine r_iconst 0 rfl ?_
  refine r_istore_n ([(2, .int 0), (0, .ref 231), (1, .int m)]) rfl ?_
  refine Ar.fall 2 rfl ?_
  exact zr_bring_loop d hh m hm (m.toInt + 1).toNat 0 _ (by have : (0 : Int32).toInt = 0 := rfl; omega) (by decide) rfl rfl rfl
theorem zr_run_loop (d : Nat) (hh : LpH g fs ROW) : ∀ (n : Nat) (m : Int32) (l : en_L), m.toInt + n = 100 → 0 ≤ m.toInt → en_get 0 l = some (.ref 231) → en_get 1 l = some (.int m) → At (d + 1) none none bs_X11_run (48, l, [], (g, N)) (fun r h' => True ∧ r = none ∧ h' = (g, N)) := by
  obtain ⟨h1, h2, h3, h4⟩ := id hh
  intro n
  induction n with
  | zero =>
    intro m l e h0 g0 g1
    refine At.enter rfl ?_
    refine r_iload_n g1 ?_
    refine r_bipush 100 rfl ?_
    refine r_ict (decide_eq_true (Int32.le_iff_toInt_le.mpr (by have : (100 : Int32).toInt = 100 := rfl; omega))) ?_
    refine At.enter rfl ?_
    refine r_vret ?_
    exact ⟨trivial, rfl, rfl⟩
  | succ n ih =>
    intro m l e h0 g0 g1
    refine At.enter rfl ?_
    refine r_iload_n g1 ?_
    refine r_bipush 100 rfl ?_
    refine r_icf 54 rfl (decide_eq_false (fun h => by have h5 := Int32.le_iff_toInt_le.mp h; have : (100 : Int32).toInt = 100 := rfl; omega)) ?_
    refine At.enter rfl ?_
    refine r_aload_n g0 ?_
    refine r_iload_n g1 ?_
    refine r_callV1v True (g, N) 59 rfl [.ref 231, .int m] [] (Nat.le_of_ble_eq_true rfl) rfl (zr_bring d hh m ⟨h0, by omega⟩) (fun _ => ?_)
    refine At.enter rfl ?_
    refine r_iconst 0 rfl ?_
    refine r_istore_n _ rfl ?_
    refine Ar.fall 61 rfl ?_
    refine At.enter rfl ?_
    refine r_iload_n (en_get_eq 2 _ _) ?_
    refine r_aload_n (en_get_ne (by decide) rfl g0) ?_
    refine r_get (v := .ref 233) h1 h2 ?_
    refine r_iconst 1 rfl ?_
    refine r_iald (v := 0) h3 (by decide) h4 ?_
    refine r_ict (by decide) ?_
    refine At.enter rfl ?_
    refine r_aload_n (en_get_ne (by decide) rfl g0) ?_
    refine r_callV1s True (.int (-1)) (g, N) 141 rfl [.ref 231] [] (Nat.le_of_ble_eq_true rfl) rfl (zr_first d hh) (fun _ => ?_)
    refine At.enter rfl ?_
    refine r_istore_n _ rfl ?_
    refine Ar.fall 142 rfl ?_
    refine At.enter rfl ?_
    refine r_iload_n (en_get_eq 2 _ _) ?_
    refine r_iconst (-1) rfl ?_
    refine r_ict (by decide) ?_
    refine At.enter rfl ?_
    refine r_iconst 0 rfl ?_
    refine r_istore_n _ rfl ?_
    refine Ar.fall 170 rfl ?_
    refine At.enter rfl ?_
    refine r_iload_n (en_get_eq 3 _ _) ?_
    refine r_aload_n (en_get_ne (by decide) rfl (en_get_ne (by decide) rfl (en_get_ne (by decide) rfl g0))) ?_
    refine r_get (v := .ref 233) h1 h2 ?_
    refine r_iconst 1 rfl ?_
    refine r_iald (v := 0) h3 (by decide) h4 ?_
    refine r_ict (by decide) ?_
    refine At.enter rfl ?_
    refine r_iinc (en_get_ne (by decide) rfl (en_get_ne (by decide) rfl (en_get_ne (by decide) rfl g1))) (m + 1) rfl _ rfl ?_
    refine r_goto ?_
    refine ih (m + 1) _ ?_ ?_ (en_get_ne (by decide) rfl (en_get_ne (by decide) rfl (en_get_ne (by decide) rfl (en_get_ne (by decide) rfl g0)))) (en_get_eq 1 _ _)
    · rw [en_inc h0 (by omega)]; omega
    · rw [en_inc h0 (by omega)]; omega
theorem zr_run (d : Nat) (hh : LpH g fs ROW) : Ev (d + 2) 225 [.ref 231] (g, N) (fun r h' => True ∧ r = none ∧ h' = (g, N)) := by
  obtain ⟨h1, h2, h3, h4⟩ := id hh
  refine Ev.mk rfl rfl ⟨Nat.le_of_ble_eq_true rfl, Or.inr (en_rcI h1 rfl)⟩ ?_
  show At _ none _ _ (0, [(0, .ref 231)], [], (g, N)) _
  refine At.enter rfl ?_
  refine r_iconst 0 rfl ?_
  refine r_istore_n ([(1, .int 0), (0, .ref 231)]) rfl ?_
  refine Ar.fall 2 rfl ?_
  refine At.enter rfl ?_
  refine r_iload_n rfl ?_
  refine r_aload_n rfl ?_
  refine r_get (v := .ref 233) h1 h2 ?_
  refine r_iconst 1 rfl ?_
  refine r_iald (v := 0) h3 (by decide) h4 ?_
  refine r_ict (by decide) ?_
  refine At.enter rfl ?_
  refine r_iconst 0 rfl ?_
  refine r_istore_n ([(1, .int 0), (0, .ref 231)]) rfl ?_
  refine Ar.fall 48 rfl ?_
  exact zr_run_loop d hh 100 0 _ (by decide) (by decide) rfl rfl
end LP
