theorem r_alen {d : Nat} {xs : Option (List Int32)} {rt : Option FieldType} {bs : en_Bs} {r : List en_Op} {pc n a b c : Nat} {l : en_L} {st : List Value} {h : en_H} {Ph : Option Value → en_H → Prop} {p t : Nat} {x : en_A} (hp : h.1[p]? = some (.inl (t, x))) (ht : t < 5) (v : Int32) (hv : Int32.ofNat (en_sz x) = v) (k : Ar d xs rt bs r (pc + n, l, .int v :: st, h) Ph) : Ar d xs rt bs ((.arraylength, n, a, b, c) :: r) (pc, l, (.ref p :: st), h) Ph := by
  subst hv
  exact Ar.plain (q := (l, .int _ :: st, h)) rfl (by show en_alen xs l (.ref p :: st) h = _; simp only [en_alen, hp]; rw [if_pos ht]) k
/-! ===== loops of the reference over no LOADS ===== -/
theorem en_get_ne {k i : Nat} {x v : Value} (hk : k ≠ i) (hc : x.category = 1) : ∀ {l : en_L}, en_get k l = some x → en_get k (en_put1 i v l) = some x := by
  intro l h
  have hf : ∀ {l : en_L}, en_get k l = some x → en_get k (l.filter (fun q => !(q.1 == i) && !(q.1 + 1 == i && q.2.category == 2))) = some x := by
    intro l
    induction l with
    | nil => intro h; cases h
    | cons q r ih =>
      intro h
      unfold en_get at h
      by_cases hq : Nat.beq q.1 k = true
      · have e : q.1 = k := Nat.eq_of_beq_eq_true hq
        rw [hq] at h
        have hx : q.2 = x := Option.some.inj h
        rw [List.filter_cons_of_pos (by simp [e, hk, hx, hc])]
        unfold en_get
        rw [hq]
        exact h
      · have hq' : Nat.beq q.1 k = false := Bool.eq_false_iff.mpr hq
        rw [hq'] at h
        rw [List.filter_cons]
        split
        · unfold en_get
          rw [hq']
          exact ih h
        · exact ih h
  unfold en_put1
  unfold en_get
  have hq' : Nat.beq i k = false := by
    cases hb : Nat.beq i k with
    | false => rfl
    | true => exact absurd (Nat.eq_of_beq_eq_true hb).symm hk
  dsimp only
  rw [hq']
  exact hf h
theorem en_get_eq (i : Nat) (v : Value) (l : en_L) : en_get i (en_put1 i v l) = some v := by
  unfold en_put1 en_get
  dsimp only
  rw [show Nat.beq i i = true from Nat.beq_refl i]
  rfl
theorem en_inc {i : Int32} (h0 : 0 ≤ i.toInt) (h : i.toInt < 1000000) : (i + 1).toInt = i.toInt + 1 := by
  rw [Int32.toInt_add, show (1 : Int32).toInt = 1 from rfl]
  exact Int.bmod_eq_of_le (by omega) (by omega)
theorem en_sg {g : List en_E} {p : Nat} {e : en_E} (h : g[p]? = some e) : g = g.set p e := by
  obtain ⟨hp, he⟩ := List.getElem?_eq_some_iff.mp h
  rw [← he]
  exact (List.set_getElem_self hp).symm
theorem At.hp {d : Nat} {xs : Option (List Int32)} {rt : Option FieldType} {bs : en_Bs} {pc : Nat} {l : en_L} {st : List Value} {g G : List en_E} {N : Nat} {Ph : Option Value → en_H → Prop} (e : g = G) (k : At d xs rt bs (pc, l, st, (G, N)) Ph) : At d xs rt bs (pc, l, st, (g, N)) Ph := by
  rw [e]
  exact k
