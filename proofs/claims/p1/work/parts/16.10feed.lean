/-! ===== feed: five times four bytes ===== -/
section FD
variable {d : Nat} {xs : Option (List Int32)} {rt : Option FieldType} {bs : en_Bs} {r : List en_Op} {n a b c pc : Nat} {l : en_L} {st : List Value} {h : en_H} {N : Nat} {Ph : Option Value → en_H → Prop}
theorem r_callVn {z : Nat} {Q : List en_E → Prop} (pc' : Nat) (hp : pc + 3 = pc') (as rest : List Value) (ha : a < 900) (hq : en_take (.invokevirtual z, n, a, b, c) st = some (as, rest)) (hE : Ev d a as h (fun r h' => r = none ∧ h'.2 = N ∧ Q h'.1)) (k : ∀ g' : List en_E, Q g' → At d xs rt bs (pc', l, rest, (g', N)) Ph) : Ar d xs rt bs ((.invokevirtual z, n, a, b, c) :: r) (pc, l, st, h) Ph := by
  refine r_callV pc' hp as rest ha hq hE ?_
  intro w h' hw
  obtain ⟨g', N'⟩ := h'
  obtain ⟨e1, e2, e3⟩ := hw
  have e4 : N' = N := e2
  subst e1
  subst e4
  exact k g' e3
end FD
theorem en_c400 : (400 : Int32).toInt = 400 := rfl
theorem en_sub8 {i : Int32} (h0 : 0 ≤ i.toInt) (h1 : i.toInt < 1000) : (i + Int32.ofInt (-8)).toInt = i.toInt - 8 := by
  have e : (Int32.ofInt (-8)).toInt = -8 := by decide
  rw [en_addT (by omega) (by omega), e]; omega
def QM (k : Int) (g : List en_E) : Prop := g.length = 259 ∧ (∃ (fs : List Value) (kk : Int32), kk.toInt = k ∧ g[231]? = some (.inr (11, fs)) ∧ fs[7]? = some (.ref 236) ∧ fs[8]? = some (.int kk)) ∧ ∃ ys : List Int32, ys.length = 400 ∧ g[236]? = some (.inl (0, .inl ys))
theorem zr_four_loop (d N : Nat) (v : Int32) : ∀ (n : Nat) (i : Int32) (k : Int) (g : List en_E) (l : en_L), i.toInt = 8 * (n : Int) - 8 → n ≤ 4 → QM k g → 0 ≤ k → k + n ≤ 400 → en_get 0 l = some (.ref 231) → en_get 1 l = some (.int v) → en_get 2 l = some (.int i) → At d none none bs_X11_four (3, l, [], (g, N)) (fun r h' => r = none ∧ h'.2 = N ∧ QM (k + n) h'.1) := by
  intro n
  induction n with
  | zero =>
    intro i k g l hi hn hq h0 h1 g0 g1 g2
    refine At.enter rfl ?_
    refine r_iload_n g2 ?_
    refine r_ift (decide_eq_true (Int32.lt_iff_toInt_lt.mpr (by have : (0 : Int32).toInt = 0 := rfl; omega))) ?_
    refine At.enter rfl ?_
    refine r_vret ?_
    exact ⟨rfl, rfl, by rw [show k + ((0 : Nat) : Int) = k by omega]; exact hq⟩
  | succ n ih =>
    intro i k g l hi hn hq h0 h1 g0 g1 g2
    obtain ⟨q1, ⟨fs, kk, q2, q3, q4, q5⟩, ys, q6, q7⟩ := hq
    have c1 : (1 : Int32).toInt = 1 := rfl
    have ek : (kk + 1).toInt = k + 1 := by rw [en_addT (by omega) (by omega), c1, q2]
    refine At.enter rfl ?_
    refine r_iload_n g2 ?_
    refine r_iff 7 rfl (decide_eq_false (en_ge0 (by omega))) ?_
    refine At.enter rfl ?_
    refine r_aload_n g0 ?_
    refine r_get q3 q4 ?_
    refine r_aload_n g0 ?_
    refine r_get q3 q5 ?_
    refine r_iload_n g1 ?_
    refine r_iload_n g2 ?_
    refine r_ishr _ rfl ?_
    refine r_sipush 255 rfl ?_
    refine r_iand _ rfl ?_
    refine r_iast q7 (en_ge0 (by omega)) (by show kk.toInt.toNat < _; omega) _ rfl ?_
    refine r_aload_n g0 ?_
    refine r_dup rfl ?_
    refine r_get (en_gs_ne (by decide) q3) q5 ?_
    refine r_iconst 1 rfl ?_
    refine r_iadd (kk + 1) rfl ?_
    refine r_putf (en_gs_ne (by decide) q3) (List.getElem?_eq_some_iff.mp q5).1 rfl _ rfl ?_
    refine r_iinc g2 _ rfl _ rfl ?_
    refine r_goto ?_
    rw [show k + ((n + 1 : Nat) : Int) = k + 1 + n by omega]
    refine ih _ (k + 1) _ _ (by rw [en_sub8 (by omega) (by omega)]; omega) (by omega) ?_ (by omega) (by omega) (en_get_ne (by decide) rfl g0) (en_get_ne (by decide) rfl g1) (en_get_eq 2 _ _)
    refine ⟨by rw [List.length_set, List.length_set]; exact q1, ⟨_, kk + 1, ek, en_gs_eq (en_gs_ne (by decide) q3), ?_, ?_⟩, _, ?_, en_gs_ne (by decide) (en_gs_eq q7)⟩
    · rw [List.getElem?_set, if_neg (by decide)]; exact q4
    · rw [List.getElem?_set, if_pos rfl, if_pos (List.getElem?_eq_some_iff.mp q5).1]
    · rw [List.length_set]; exact q6
theorem zr_four (d N : Nat) (v : Int32) {g : List en_E} {k : Int} (hq : QM k g) (h0 : 0 ≤ k) (h1 : k + 4 ≤ 400) : Ev (d + 1) 184 [.ref 231, .int v] (g, N) (fun r h' => r = none ∧ h'.2 = N ∧ QM (k + 4) h'.1) := by
  obtain ⟨q1, ⟨fs, kk, q2, q3, q4, q5⟩, ys, q6, q7⟩ := id hq
  refine Ev.mk rfl rfl ⟨Nat.le_of_ble_eq_true rfl, Or.inr (en_rcI q3 rfl)⟩ ?_
  show At _ none _ _ (0, [(0, .ref 231), (1, .int v)], [], (g, N)) _
  refine At.enter rfl ?_
  refine r_bipush 24 rfl ?_
  refine r_istore_n _ rfl ?_
  refine Ar.fall 3 rfl ?_
  exact zr_four_loop d N v 4 24 k g _ (by decide) (by decide) hq h0 (by omega) rfl rfl rfl
theorem zm_X11_feed (a : Nat → en_E) (n : Nat) (a1 : Int32) (a2 : Int32) (a3 : Int32) (a4 : Int32) (a5 : Int32) : Ev 14 185 [.ref 231, .int a1, .int a2, .int a3, .int a4, .int a5] (en_pre a 231 hp_M, n) (fun r h' => r = some (.int (20)) ∧ h'.1.length = 259 ∧ h'.2 = n) := by
  refine Ev.mk rfl rfl ⟨Nat.le_of_ble_eq_true rfl, Or.inr (en_rcI (hm_231 _) rfl)⟩ ?_
  show At _ none _ _ (0, [(0, .ref 231), (1, .int a1), (2, .int a2), (3, .int a3), (4, .int a4), (5, .int a5)], [], (en_pre a 231 hp_M, n)) _
  have Q0 : QM 0 (en_pre a 231 hp_M) := ⟨en_prel a, ⟨_, 0, rfl, hm_231 _, rfl, rfl⟩, _, by rw [List.length_replicate], hm_236 _⟩
  generalize en_pre a 231 hp_M = g at Q0 ⊢
  obtain ⟨q1, ⟨fs, kk, q2, q3, q4, q5⟩, ys, q6, q7⟩ := id Q0
  have h0f : 0 < fs.length := by have := (List.getElem?_eq_some_iff.mp q5).1; omega
  refine At.enter rfl ?_
  refine r_aload_n rfl ?_
  refine r_iconst 0 rfl ?_
  refine r_putf q3 h0f rfl _ rfl ?_
  refine r_aload_n rfl ?_
  refine r_get (v := .int kk) (en_gs_eq q3) (by rw [List.getElem?_set, if_neg (by decide)]; exact q5) ?_
  refine r_bipush 20 rfl ?_
  have k0 : kk = 0 := Int32.toInt_inj.mp q2
  subst k0
  refine r_iadd 20 rfl ?_
  refine r_sipush 400 rfl ?_
  refine r_ict (by decide) ?_
  have Q1 : QM 0 (g.set 231 (.inr (11, fs.set 0 (.int 0)))) := by
    refine ⟨by rw [List.length_set]; exact q1, ⟨_, 0, rfl, en_gs_eq q3, ?_, ?_⟩, ys, q6, en_gs_ne (by decide) q7⟩
    · rw [List.getElem?_set, if_neg (by decide)]; exact q4
    · rw [List.getElem?_set, if_neg (by decide)]; exact q5
  refine At.enter rfl ?_
  refine r_aload_n rfl ?_
  refine r_iload_n rfl ?_
  refine r_callVn 25 rfl [.ref 231, .int a1] [] (Nat.le_of_ble_eq_true rfl) rfl (zr_four 12 n a1 Q1 (by decide) (by decide)) (fun g2 Q2 => ?_)
  refine At.enter rfl ?_
  refine r_aload_n rfl ?_
  refine r_iload_n rfl ?_
  refine r_callVn 30 rfl [.ref 231, .int a2] [] (Nat.le_of_ble_eq_true rfl) rfl (zr_four 12 n a2 Q2 (by decide) (by decide)) (fun g3 Q3 => ?_)
  refine At.enter rfl ?_
  refine r_aload_n rfl ?_
  refine r_iload_n rfl ?_
  refine r_callVn 35 rfl [.ref 231, .int a3] [] (Nat.le_of_ble_eq_true rfl) rfl (zr_four 12 n a3 Q3 (by decide) (by decide)) (fun g4 Q4 => ?_)
  refine At.enter rfl ?_
  refine r_aload_n rfl ?_
  refine r_iload rfl ?_
  refine r_callVn 41 rfl [.ref 231, .int a4] [] (Nat.le_of_ble_eq_true rfl) rfl (zr_four 12 n a4 Q4 (by decide) (by decide)) (fun g5 Q5 => ?_)
  refine At.enter rfl ?_
  refine r_aload_n rfl ?_
  refine r_iload rfl ?_
  refine r_callVn 47 rfl [.ref 231, .int a5] [] (Nat.le_of_ble_eq_true rfl) rfl (zr_four 12 n a5 Q5 (by decide) (by decide)) (fun g6 Q6 => ?_)
  obtain ⟨p1, ⟨fs', k', p2, p3, p4, p5⟩, -⟩ := Q6
  refine At.enter rfl ?_
  refine r_aload_n rfl ?_
  refine r_get p3 p5 ?_
  refine r_ireti ?_
  refine ⟨?_, p1, rfl⟩
  rw [show k' = 20 from Int32.toInt_inj.mp p2]
def en_F0 : List Value := [.ref 1, .ref 58, .ref 173, .ref 174, .ref 176, .ref 184, .ref 188, .ref 204, .ref 220, .ref 222, .ref 223, .ref 228, .ref 229, .ref 230, .int 0, .int 0, .int 0, .int 0]
def QX (k : Int) (g : List en_E) : Prop := IsX g ∧ g[0]? = some (.inr (10, en_F0)) ∧ (∃ kk : Int32, kk.toInt = k ∧ g[174]? = some (.inr (8, [.ref 175, .int kk]))) ∧ ∃ ys : List Int32, ys.length = 400 ∧ g[175]? = some (.inl (0, .inl ys))
theorem zr_app_loop (d N : Nat) (v : Int32) : ∀ (n : Nat) (i : Int32) (k : Int) (g : List en_E) (l : en_L), i.toInt = 8 * (n : Int) - 8 → n ≤ 4 → QX k g → 0 ≤ k → k + n ≤ 400 → en_get 0 l = some (.ref 174) → en_get 1 l = some (.int v) → en_get 2 l = some (.int i) → At d none none bs_X8_append (3, l, [], (g, N)) (fun r h' => r = none ∧ h'.2 = N ∧ QX (k + n) h'.1) := by
  intro n
  induction n with
  | zero =>
    intro i k g l hi hn hq h0 h1 g0 g1 g2
    refine At.enter rfl ?_
    refine r_iload_n g2 ?_
    refine r_ift (decide_eq_true (Int32.lt_iff_toInt_lt.mpr (by have : (0 : Int32).toInt = 0 := rfl; omega))) ?_
    refine At.enter rfl ?_
    refine r_vret ?_
    exact ⟨rfl, rfl, by rw [show k + ((0 : Nat) : Int) = k by omega]; exact hq⟩
  | succ n ih =>
    intro i k g l hi hn hq h0 h1 g0 g1 g2
    obtain ⟨q1, q0, ⟨kk, q2, q3⟩, ys, q6, q7⟩ := hq
    have c1 : (1 : Int32).toInt = 1 := rfl
    have c400 := en_c400
    have ek : (kk + 1).toInt = k + 1 := by rw [en_addT (by omega) (by omega), c1, q2]
    refine At.enter rfl ?_
    refine r_iload_n g2 ?_
    refine r_iff 7 rfl (decide_eq_false (en_ge0 (by omega))) ?_
    refine At.enter rfl ?_
    refine r_aload_n g0 ?_
    refine r_get (v := .int kk) q3 rfl ?_
    refine r_sipush 400 rfl ?_
    refine r_icf 17 rfl (decide_eq_false (fun h => by have h5 := Int32.le_iff_toInt_le.mp h; omega)) ?_
    refine At.enter rfl ?_
    refine r_aload_n g0 ?_
    refine r_get (v := .ref 175) q3 rfl ?_
    refine r_aload_n g0 ?_
    refine r_get (v := .int kk) q3 rfl ?_
    refine r_iload_n g1 ?_
    refine r_iload_n g2 ?_
    refine r_iushr _ rfl ?_
    refine r_sipush 255 rfl ?_
    refine r_iand _ rfl ?_
    refine r_iast q7 (en_ge0 (by omega)) (by show kk.toInt.toNat < _; omega) _ rfl ?_
    refine r_aload_n g0 ?_
    refine r_dup rfl ?_
    refine r_get (v := .int kk) (en_gs_ne (by decide) q3) rfl ?_
    refine r_iconst 1 rfl ?_
    refine r_iadd (kk + 1) rfl ?_
    refine r_putf (en_gs_ne (by decide) q3) (Nat.le_of_ble_eq_true rfl) rfl [.ref 175, .int (kk + 1)] rfl ?_
    refine r_iinc g2 _ rfl _ rfl ?_
    refine r_goto ?_
    rw [show k + ((n + 1 : Nat) : Int) = k + 1 + n by omega]
    refine ih _ (k + 1) _ _ (by rw [en_sub8 (by omega) (by omega)]; omega) (by omega) ?_ (by omega) (by omega) (en_get_ne (by decide) rfl g0) (en_get_ne (by decide) rfl g1) (en_get_eq 2 _ _)
    refine ⟨(q1.set (by decide)).set (by decide), en_gs_ne (by decide) (en_gs_ne (by decide) q0), ⟨kk + 1, ek, en_gs_eq (en_gs_ne (by decide) q3)⟩, _, ?_, en_gs_ne (by decide) (en_gs_eq q7)⟩
    rw [List.length_set]; exact q6
theorem zr_app (d N : Nat) (v : Int32) {g : List en_E} {k : Int} (hq : QX k g) (h0 : 0 ≤ k) (h1 : k + 4 ≤ 400) : Ev (d + 1) 93 [.ref 174, .int v] (g, N) (fun r h' => r = none ∧ h'.2 = N ∧ QX (k + 4) h'.1) := by
  obtain ⟨q1, q0, ⟨kk, q2, q3⟩, ys, q6, q7⟩ := id hq
  refine Ev.mk rfl rfl ⟨Nat.le_of_ble_eq_true rfl, Or.inr (en_rcI q3 rfl)⟩ ?_
  show At _ none _ _ (0, [(0, .ref 174), (1, .int v)], [], (g, N)) _
  refine At.enter rfl ?_
  refine r_bipush 24 rfl ?_
  refine r_istore_n _ rfl ?_
  refine Ar.fall 3 rfl ?_
  exact zr_app_loop d N v 4 24 k g _ (by decide) (by decide) hq h0 (by omega) rfl rfl rfl
theorem zx_X10_feed (n : Nat) (a1 : Int32) (a2 : Int32) (a3 : Int32) (a4 : Int32) (a5 : Int32) : Ev 14 111 [.ref 0, .int a1, .int a2, .int a3, .int a4, .int a5] (hp_X ++ hp_M, n) (fun r h' => r = some (.int (20)) ∧ IsX h'.1 ∧ h'.2 = n) := by
  refine Ev.mk rfl rfl ⟨Nat.le_of_ble_eq_true rfl, Or.inr (en_rcI hx_0 rfl)⟩ ?_
  show At _ none _ _ (0, [(0, .ref 0), (1, .int a1), (2, .int a2), (3, .int a3), (4, .int a4), (5, .int a5)], [], (hp_X ++ hp_M, n)) _
  have Q1 : QX 0 (hp_X ++ hp_M) := ⟨IsX.base, hx_0, ⟨0, rfl, hx_174⟩, _, by rw [List.length_replicate], hx_175⟩
  generalize hp_X ++ hp_M = g at Q1 ⊢
  obtain ⟨q1, q0, ⟨kk, q2, q3⟩, -⟩ := id Q1
  have k0 : kk = 0 := Int32.toInt_inj.mp q2
  subst k0
  refine At.enter rfl ?_
  refine r_aload_n rfl ?_
  refine r_get (v := .ref 174) q0 rfl ?_
  refine r_get (v := .int 0) q3 rfl ?_
  refine r_bipush 20 rfl ?_
  refine r_iadd 20 rfl ?_
  refine r_sipush 400 rfl ?_
  refine r_ict (by decide) ?_
  refine At.enter rfl ?_
  refine r_aload_n rfl ?_
  refine r_get (v := .ref 174) q0 rfl ?_
  refine r_iload_n rfl ?_
  refine r_callVn 26 rfl [.ref 174, .int a1] [] (Nat.le_of_ble_eq_true rfl) rfl (zr_app 12 n a1 Q1 (by decide) (by decide)) (fun g2 Q2 => ?_)
  refine At.enter rfl ?_
  refine r_aload_n rfl ?_
  refine r_get (v := .ref 174) Q2.2.1 rfl ?_
  refine r_iload_n rfl ?_
  refine r_callVn 34 rfl [.ref 174, .int a2] [] (Nat.le_of_ble_eq_true rfl) rfl (zr_app 12 n a2 Q2 (by decide) (by decide)) (fun g3 Q3 => ?_)
  refine At.enter rfl ?_
  refine r_aload_n rfl ?_
  refine r_get (v := .ref 174) Q3.2.1 rfl ?_
  refine r_iload_n rfl ?_
  refine r_callVn 42 rfl [.ref 174, .int a3] [] (Nat.le_of_ble_eq_true rfl) rfl (zr_app 12 n a3 Q3 (by decide) (by decide)) (fun g4 Q4 => ?_)
  refine At.enter rfl ?_
  refine r_aload_n rfl ?_
  refine r_get (v := .ref 174) Q4.2.1 rfl ?_
  refine r_iload rfl ?_
  refine r_callVn 51 rfl [.ref 174, .int a4] [] (Nat.le_of_ble_eq_true rfl) rfl (zr_app 12 n a4 Q4 (by decide) (by decide)) (fun g5 Q5 => ?_)
  refine At.enter rfl ?_
  refine r_aload_n rfl ?_
  refine r_get (v := .ref 174) Q5.2.1 rfl ?_
  refine r_iload rfl ?_
  refine r_callVn 60 rfl [.ref 174, .int a5] [] (Nat.le_of_ble_eq_true rfl) rfl (zr_app 12 n a5 Q5 (by decide) (by decide)) (fun g6 Q6 => ?_)
  obtain ⟨p1, p0, ⟨k', p2, p3⟩, -⟩ := Q6
  refine At.enter rfl ?_
  refine r_aload_n rfl ?_
  refine r_get (v := .ref 174) p0 rfl ?_
  refine r_get (v := .int k') p3 rfl ?_
  refine r_ireti ?_
  refine ⟨?_, p1, rfl⟩
  rw [show k' = 20 from Int32.toInt_inj.mp p2]
