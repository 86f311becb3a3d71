/-! ===== a law taken over from another ===== -/
theorem Lw_sep {q o j k : Nat} (hq : Lw q) (ho : Lw o) (hj : j ≤ 6) (hk : k ≤ 6) (e : q + j = o + k) : q = o ∧ j = k := by
  have A : Lws.all (fun q => Lws.all (fun o => (List.range 7).all (fun j => (List.range 7).all (fun k => !(q + j == o + k) || (q == o && j == k))))) = true := rfl
  have B : (Lws.all (fun o => (List.range 7).all (fun j => (List.range 7).all (fun k => !(q + j == o + k) || (q == o && j == k))))) = true := memA_all hq (P := fun q => Lws.all (fun o => (List.range 7).all (fun j => (List.range 7).all (fun k => !(q + j == o + k) || (q == o && j == k))))) A
  have C : ((List.range 7).all (fun j => (List.range 7).all (fun k => !(q + j == o + k) || (q == o && j == k)))) = true := memA_all ho (P := fun o => (List.range 7).all (fun j => (List.range 7).all (fun k => !(q + j == o + k) || (q == o && j == k)))) B
  have D : ((List.range 7).all (fun k => !(q + j == o + k) || (q == o && j == k))) = true := List.all_eq_true.mp C j (List.mem_range.mpr (by omega))
  have E : (!(q + j == o + k) || (q == o && j == k)) = true := List.all_eq_true.mp D k (List.mem_range.mpr (by omega))
  rw [Bool.or_eq_true] at E
  rcases E with E | E
  · rw [e] at E
    simp at E
  · rw [Bool.and_eq_true] at E
    exact ⟨eq_of_beq E.1, eq_of_beq E.2⟩
/-- so far: the fields told by flags, the first n arrays -/
def LBC (g0 g : List en_E) (q r : Nat) (f0 f3 f4 : Bool) (n : Nat) : Prop := (∀ k : Nat, 1 ≤ k → k ≤ 6 → gA g (q + k) = if k ≤ n then gA g0 (r + k) else gA g0 (q + k)) ∧ (gI g q 0 = if f0 then gI g0 r 0 else gI g0 q 0) ∧ (gI g q 3 = if f3 then gI g0 r 3 else gI g0 q 3) ∧ (gI g q 4 = if f4 then gI g0 r 4 else gI g0 q 4) ∧ ∀ o : Nat, Lw o → o ≠ q → LSM g0 g o o
def BEC (g0 g : List en_E) (q r : Nat) : Prop := LSM g0 g q r ∧ ∀ o : Nat, Lw o → o ≠ q → LSM g0 g o o
section LBCS
variable {g0 g : List en_E} {q r n : Nat} {f0 f3 f4 : Bool} {v : Int32}
theorem LBC_z : LBC g0 g0 q r false false false 0 := ⟨fun k k1 _ => by rw [if_neg (by omega)], rfl, rfl, rfl, fun _ _ _ => LSM_rf⟩
theorem LBC_end (h : LBC g0 g q r true true true 6) : BEC g0 g q r := ⟨⟨fun k k1 k6 => by rw [h.1 k k1 k6, if_pos k6], h.2.1, h.2.2.1, h.2.2.2.1⟩, h.2.2.2.2⟩
/-- what stands in the other law, as at first -/
theorem LBC_v0 (h : LBC g0 g q r false f3 f4 n) (hr : Lw r) (hv : gI g r 0 = v) : v = gI g0 r 0 := by
  by_cases c : r = q
  · rw [← hv, c]; exact h.2.1
  · rw [← hv]; exact (h.2.2.2.2 r hr c).2.1
theorem LBC_v3 (h : LBC g0 g q r f0 false f4 n) (hr : Lw r) (hv : gI g r 3 = v) : v = gI g0 r 3 := by
  by_cases c : r = q
  · rw [← hv, c]; exact h.2.2.1
  · rw [← hv]; exact (h.2.2.2.2 r hr c).2.2.1
theorem LBC_v4 (h : LBC g0 g q r f0 f3 false n) (hr : Lw r) (hv : gI g r 4 = v) : v = gI g0 r 4 := by
  by_cases c : r = q
  · rw [← hv, c]; exact h.2.2.2.1
  · rw [← hv]; exact (h.2.2.2.2 r hr c).2.2.2
theorem LSM_sI {o b : Nat} (h : LSM g0 g o o) (c : o ≠ q) : LSM g0 (sI g q b v) o o := ⟨fun k k1 k6 => gA_sI.trans (h.1 k k1 k6), (gI_sI_ne (fun z => c z.1.symm)).trans h.2.1, (gI_sI_ne (fun z => c z.1.symm)).trans h.2.2.1, (gI_sI_ne (fun z => c z.1.symm)).trans h.2.2.2⟩
theorem LBC_I0 (h : LBC g0 g q r false f3 f4 n) (hs : Sh g) (hq : Lw q) (hr : Lw r) (hv : gI g r 0 = v) : LBC g0 (sI g q 0 v) q r true f3 f4 n := ⟨fun k k1 k6 => gA_sI.trans (h.1 k k1 k6), (gI_sI_eq hs (Lw.ko hq) rfl _).trans (LBC_v0 h hr hv), (gI_sI_ne (fun z => absurd z.2 (by decide))).trans h.2.2.1, (gI_sI_ne (fun z => absurd z.2 (by decide))).trans h.2.2.2.1, fun o ho c => LSM_sI (h.2.2.2.2 o ho c) c⟩
theorem LBC_I3 (h : LBC g0 g q r f0 false f4 n) (hs : Sh g) (hq : Lw q) (hr : Lw r) (hv : gI g r 3 = v) : LBC g0 (sI g q 3 v) q r f0 true f4 n := ⟨fun k k1 k6 => gA_sI.trans (h.1 k k1 k6), (gI_sI_ne (fun z => absurd z.2 (by decide))).trans h.2.1, (gI_sI_eq hs (Lw.ko hq) rfl _).trans (LBC_v3 h hr hv), (gI_sI_ne (fun z => absurd z.2 (by decide))).trans h.2.2.2.1, fun o ho c => LSM_sI (h.2.2.2.2 o ho c) c⟩
theorem LBC_I4 (h : LBC g0 g q r f0 f3 false n) (hs : Sh g) (hq : Lw q) (hr : Lw r) (hv : gI g r 4 = v) : LBC g0 (sI g q 4 v) q r f0 f3 true n := ⟨fun k k1 k6 => gA_sI.trans (h.1 k k1 k6), (gI_sI_ne (fun z => absurd z.2 (by decide))).trans h.2.1, (gI_sI_ne (fun z => absurd z.2 (by decide))).trans h.2.2.1, (gI_sI_eq hs (Lw.ko hq) rfl _).trans (LBC_v4 h hr hv), fun o ho c => LSM_sI (h.2.2.2.2 o ho c) c⟩
/-- one array more, whole -/
theorem LBC_A {k t0 t1 m sp dp l : Nat} (h : LBC g0 g q r f0 f3 f4 n) (hs : Sh g) (hq : Lw q) (hr : Lw r) (hk : k = n + 1) (h6 : k ≤ 6) (k0 : kA (r + k) t0 m) (k1 : kA (q + k) t1 m) (e0 : sp = 0) (e1 : dp = 0) (e2 : l = m) : LBC g0 (sW g (q + k) (en_cpy (gA g (r + k)) (gA g (q + k)) sp dp l)) q r f0 f3 f4 k := by
  refine ⟨fun j j1 j6 => ?_, gI_sW.trans h.2.1, gI_sW.trans h.2.2.1, gI_sW.trans h.2.2.2.1, fun o ho c => ⟨fun j j1 j6 => (gA_sW_ne (fun z => ?_)).trans ((h.2.2.2.2 o ho c).1 j j1 j6), gI_sW.trans (h.2.2.2.2 o ho c).2.1, gI_sW.trans (h.2.2.2.2 o ho c).2.2.1, gI_sW.trans (h.2.2.2.2 o ho c).2.2.2⟩⟩
  · by_cases e : j = k
    · subst e
      rw [if_pos (Nat.le_refl _), gA_cpF hs k0 k1 e0 e1 e2]
      by_cases c : r = q
      · have z := h.1 j j1 j6
        rw [if_neg (by omega)] at z
        rw [c]
        exact z
      · exact (h.2.2.2.2 r hr c).1 j j1 j6
    · rw [gA_sW_ne (fun z => e (Nat.add_left_cancel z).symm), h.1 j j1 j6]
      by_cases c : j ≤ n
      · rw [if_pos c, if_pos (by omega)]
      · rw [if_neg c, if_neg (by omega)]
  · exact c (Lw_sep ho hq j6 h6 z.symm).1
end LBCS
