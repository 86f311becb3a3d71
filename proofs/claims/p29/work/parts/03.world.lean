/-! ===== what a list of cells stands for on the machine's heap ===== -/
/-- the first address, the classes' numbers and slots, the arrays' classes, the addresses outside (0 the script, k + 1 the text constant k) -/
abbrev en_G : Type := Nat × va_G × (Nat → ClassId) × (Nat → Nat)
def en_cv (G : en_G) (v : Value) : Value := match v with
  | .ref k => .ref (G.1 + k)
  | .float n => .ref (G.2.2.2 n.toNat)
  | .int x => .int x
  | .long x => .long x
  | .double x => .double x
  | .null => .null
  | .retAddr x => .retAddr x
def en_cq (G : en_G) (q : Nat × Value) : Nat × Value := (q.1, en_cv G q.2)
def en_cx (G : en_G) (x : en_A) : vp_A := match x with
  | .inl ys => (ys.length, .inl (fun j => ys.getD j 0))
  | .inr (.inl ys) => (ys.length, .inr (.inl (fun j => ys.getD j 0)))
  | .inr (.inr ys) => (ys.length, .inr (.inr (.inr (.inr (fun j => (ys.getD j none).map (fun k => G.1 + k))))))
def en_ce (G : en_G) (e : en_E) : va_E := match e with
  | .inl q => .inl (G.2.2.1 q.1, en_cx G q.2)
  | .inr q => .inr (q.1, q.2.map (en_cv G))
def en_cw (G : en_G) (h : List en_E) : va_W := h.mapIdx (fun k e => (G.1 + k, en_ce G e))
def en_tys (G : en_G) : List (ClassId × FieldType) := [(G.2.2.1 0, en_ty 0), (G.2.2.1 1, en_ty 1), (G.2.2.1 2, en_ty 2), (G.2.2.1 3, en_ty 3), (G.2.2.1 4, en_ty 4)]
/-- a text constant at a, its letters at t, and what String's methods read besides -/
def st_S (G : en_G) (a t n : Nat) (f : Nat → Value) (U : State) (H : Heap) : Prop :=
  va_Z "java/lang/String" "COMPACT_STRINGS" "Z" (.int 1) (fun q => G.1 ≤ q) U H ∧ va_Zq "jdk/internal/util/Preconditions" "SIOOBE_FORMATTER" "Ljava/util/function/BiFunction;" (fun q => G.1 ≤ q) U H ∧ va_O "java/lang/String" a (fun q => G.1 ≤ q) U H ∧ va_OF "java/lang/String" "coder" "B" (.int 0) a (fun q => G.1 ≤ q) U H ∧ va_OF "java/lang/String" "value" "[B" (.ref t) a (fun q => G.1 ≤ q) U H ∧ va_T .byte t n f (fun q => G.1 ≤ q) U H
theorem st_S.moved {G : en_G} {a t n : Nat} {f : Nat → Value} {u U : State} {H : Heap} (h : st_S G a t n f u H) (hvm : u.vm.Alike U.vm) : st_S G a t n f U H :=
  ⟨va_Z.moved hvm h.1, va_Zq.moved hvm h.2.1, va_O.moved hvm h.2.2.1, va_OF.moved hvm h.2.2.2.1, va_OF.moved hvm h.2.2.2.2.1, va_T.moved hvm h.2.2.2.2.2⟩
theorem st_S.kept {G : en_G} {a t n : Nat} {f : Nat → Value} {U : State} {H H1 : Heap} (h : st_S G a t n f U H) (hq : ∀ q : Nat, q < H.size → ¬ G.1 ≤ q → H1[q]? = H[q]?) : st_S G a t n f U H1 :=
  ⟨h.1.kept hq, h.2.1.kept hq, h.2.2.1.kept hq, h.2.2.2.1.kept hq, h.2.2.2.2.1.kept hq, h.2.2.2.2.2.kept hq⟩
def en_T (G : en_G) (U : State) (H : Heap) : Prop := ∃ adV : Nat → Nat, ∀ k : Nat, k < 17 → st_S G (G.2.2.2 (k + 1)) (adV k) (en_tl.getD k 0) (fun j => .int ((en_txt.getD k []).getD j 0)) U H
theorem en_T.moved {G : en_G} {u U : State} {H : Heap} (h : en_T G u H) (hvm : u.vm.Alike U.vm) : en_T G U H := by
  obtain ⟨ad, h⟩ := h
  exact ⟨ad, fun k hk => (h k hk).moved hvm⟩
theorem en_T.kept {G : en_G} {U : State} {H H1 : Heap} (h : en_T G U H) (hq : ∀ q : Nat, q < H.size → ¬ G.1 ≤ q → H1[q]? = H[q]?) : en_T G U H1 := by
  obtain ⟨ad, h⟩ := h
  exact ⟨ad, fun k hk => (h k hk).kept hq⟩
def en_K (G : en_G) (U : State) : Prop := va_K G.2.1 en_cl (en_tys G) U ∧ va_AO "LeftHands$Law" U ∧ va_AO "LeftHands$Bazaar" U ∧ (∀ q ∈ en_nest, va_Nw (.methodLinkNest q.1 q.2.1 q.2.2.1 q.2.2.2) U) ∧ (∀ (i : Nat) (q : String × Nat × String), en_str[i]? = some q → vk_R q.1 q.2.1 q.2.2 (G.2.2.2 (i + 1)) U) ∧ en_T G U U.heap
def en_W0 : List Jvm.Cond := lw_tbl.filter goodWord
def en_ws (I : en_I) : List Jvm.Cond := .code I.1 I.2.1 I.2.2.1 I.2.2.2.1 :: en_W0
def en_Rl (G : en_G) (s : State) (n0 k0 : Nat) (h : en_H) (H : Heap) (locs : List Loc) (cells slots : Nat) : Prop := va_P G.2.1 en_cl (en_cw G h.1) H ∧ H.size = G.1 + h.1.length ∧ va_S (fun q => G.1 ≤ q) s.heap H locs ∧ cells + n0 = h.1.length ∧ slots + k0 = h.2
def en_Xt (G : en_G) (xs : Option (List Int32)) (s : State) : Prop := ∀ ys : List Int32, xs = some ys → va_X (G.2.2.2 0) ys.length (fun j => ys.getD j 0) s s.heap ∧ G.2.2.2 0 < s.heap.size ∧ G.2.2.2 0 < G.1
def en_Fr (G : en_G) (xs : Option (List Int32)) (I : en_I) (R : Room) (p : Program) (s : State) (m : MethodId) (args : Array Value) (meth : Method) (c : Code) : Prop :=
  p.tables.exec = Jvm.exec ∧ c.code = I.2.1 ∧ c.maxLocals = I.2.2.1 ∧ s.vm.findClass I.1.cls = some m.cls ∧ (∀ w ∈ en_W0, w.before args s = true) ∧ en_K G s ∧ G.1 ≤ s.heap.size ∧ en_Xt G xs s ∧ (8 ≤ R.frames ∧ 512 ≤ R.locals) ∧ (I.1.name = "<init>" → meth.name = "<init>")
theorem en_in {c : Nat} {w : Jvm.Cond} (h : tables_1[c]? = some w) (g : goodWord w = true) : w ∈ en_W0 := List.mem_filter.mpr ⟨List.mem_append_right _ (List.mem_of_getElem? h), g⟩
theorem en_cat (G : en_G) (v : Value) : (en_cv G v).category = v.category := by cases v <;> rfl
theorem en_csm (G : en_G) (st : List Value) : ((st.map (en_cv G)).map fun v => v.category).sum = en_cs st := by
  unfold en_cs
  rw [List.map_map]
  congr 1
  apply List.map_congr_left
  intro v _
  exact en_cat G v
theorem en_get_mem {i : Nat} {v : Value} : ∀ {l : en_L}, en_get i l = some v → (i, v) ∈ l
  | [], h => by cases h
  | q :: r, h => by
    unfold en_get at h
    by_cases hq : Nat.beq q.1 i = true
    · rw [hq] at h
      cases h
      have e : q.1 = i := Nat.eq_of_beq_eq_true hq
      rw [← e]
      exact List.mem_cons_self
    · have hq' : Nat.beq q.1 i = false := Bool.eq_false_iff.mpr hq
      rw [hq'] at h
      exact List.mem_cons_of_mem _ (en_get_mem h)
theorem en_loc {G : en_G} {ls : Array Slot} {n i : Nat} {l : en_L} {v : Value} (hl : lv_has ls n (l.map (en_cq G))) (h : en_get i l = some v) : ls[i]? = some (.val (en_cv G v)) :=
  hl.2.2 (i, en_cv G v) (List.mem_map.mpr ⟨(i, v), en_get_mem h, rfl⟩)
theorem en_put1_map (G : en_G) (i : Nat) (v : Value) (l : en_L) : (i, en_cv G v) :: (l.map (en_cq G)).filter (fun q => !(q.1 == i) && !(q.1 + 1 == i && q.2.category == 2)) = (en_put1 i v l).map (en_cq G) := by
  unfold en_put1
  rw [List.map_cons, List.filter_map]
  congr 2
  apply List.filter_congr
  intro q _
  simp [Function.comp, en_cq, en_cat]
theorem en_put2_map (G : en_G) (i : Nat) (v : Value) (l : en_L) : (i, en_cv G v) :: (l.map (en_cq G)).filter (fun q => !(q.1 == i) && (!(q.1 == i + 1) && !(q.1 + 1 == i && q.2.category == 2))) = (en_put2 i v l).map (en_cq G) := by
  unfold en_put2
  rw [List.map_cons, List.filter_map]
  congr 2
  apply List.filter_congr
  intro q _
  simp [Function.comp, en_cq, en_cat]
theorem en_cw_get (G : en_G) (h : List en_E) (k : Nat) : (en_cw G h)[k]? = (h[k]?).map fun e => (G.1 + k, en_ce G e) := by
  unfold en_cw
  rw [List.getElem?_mapIdx]
theorem en_cw_at {G : en_G} {h : List en_E} {k : Nat} {e : en_E} (hk : h[k]? = some e) : (en_cw G h)[k]? = some (G.1 + k, en_ce G e) := by
  rw [en_cw_get, hk]
  rfl
theorem en_cw_set (G : en_G) (h : List en_E) (k : Nat) (e : en_E) : (en_cw G h).set k (G.1 + k, en_ce G e) = en_cw G (h.set k e) := by
  apply List.ext_getElem?
  intro i
  rw [List.getElem?_set, en_cw_get, en_cw_get, List.getElem?_set]
  have hz : (en_cw G h).length = h.length := by unfold en_cw; simp
  by_cases hi : k = i
  · subst hi
    rw [if_pos rfl, if_pos rfl, hz]
    by_cases hk : k < h.length
    · rw [if_pos hk, if_pos hk]
      rfl
    · rw [if_neg hk, if_neg hk]
      rfl
  · rw [if_neg hi, if_neg hi]
theorem en_cw_app (G : en_G) (h : List en_E) (e : en_E) : en_cw G (h ++ [e]) = en_cw G h ++ [(G.1 + h.length, en_ce G e)] := by
  unfold en_cw
  rw [List.mapIdx_append]
  simp
theorem en_D (G : en_G) (h : List en_E) : va_D (fun q => G.1 ≤ q) (en_cw G h) := by
  refine ⟨fun i j p q hp hq he => ?_, fun k q hk => ?_⟩
  · rw [en_cw_get] at hp hq
    cases hi : h[i]? with
    | none => rw [hi] at hp; cases hp
    | some a =>
      cases hj : h[j]? with
      | none => rw [hj] at hq; cases hq
      | some b =>
        rw [hi] at hp
        rw [hj] at hq
        cases hp
        cases hq
        have he' : G.1 + i = G.1 + j := he
        omega
  · rw [en_cw_get] at hk
    cases hi : h[k]? with
    | none => rw [hi] at hk; cases hk
    | some a =>
      rw [hi] at hk
      cases hk
      exact Nat.le_add_right _ _
/-- a cell told in two ways -/
theorem en_Pset {D : va_G} {cl : List vw_C} {ws : va_W} {k a : Nat} {x y : ClassId × vp_A} {H : Heap} (h : va_P D cl (ws.set k (a, .inl x)) H) (e : vp_cell x.1 x.2 = vp_cell y.1 y.2) : va_P D cl (ws.set k (a, .inl y)) H := by
  intro i q hi
  have h1 := h i
  rw [List.getElem?_set] at hi h1
  by_cases hk : k = i
  · rw [if_pos hk] at hi h1
    by_cases hl : k < ws.length
    · rw [if_pos hl] at hi h1
      cases hi
      have h2 := h1 _ rfl
      show H[a]? = some (vp_cell y.1 y.2)
      rw [← e]
      exact h2
    · rw [if_neg hl] at hi
      cases hi
  · rw [if_neg hk] at hi h1
    exact h1 q hi
theorem en_ceI (c : ClassId) {n : Nat} {f g : Nat → Int32} (h : ∀ j, j < n → f j = g j) : vp_cell c (n, .inl f) = vp_cell c (n, .inl g) := by
  rw [vp_cell_i, vp_cell_i]
  unfold arrV
  congr 2
  funext j
  exact congrArg Value.int (h j.val j.isLt)
theorem en_ceL (c : ClassId) {n : Nat} {f g : Nat → Int64} (h : ∀ j, j < n → f j = g j) : vp_cell c (n, .inr (.inl f)) = vp_cell c (n, .inr (.inl g)) := by
  rw [vp_cell_l, vp_cell_l]
  unfold arrV
  congr 2
  funext j
  exact congrArg Value.long (h j.val j.isLt)
theorem en_ceQ (c : ClassId) {n : Nat} {f g : Nat → Option Nat} (h : ∀ j, j < n → f j = g j) : vp_cell c (n, .inr (.inr (.inr (.inr f)))) = vp_cell c (n, .inr (.inr (.inr (.inr g)))) := by
  rw [vp_cell_q, vp_cell_q]
  unfold arrV
  congr 2
  funext j
  exact congrArg va_rf (h j.val j.isLt)
theorem en_getD_set {α : Type} (ys : List α) (i : Nat) (x d : α) (hi : i < ys.length) (j : Nat) : (ys.set i x).getD j d = if j = i then x else ys.getD j d := by
  rw [List.getD_eq_getElem?_getD, List.getD_eq_getElem?_getD, List.getElem?_set]
  by_cases h : i = j
  · subst h
    simp [hi]
  · rw [if_neg h, if_neg (fun e => h e.symm)]
theorem en_getD_cpy {α : Type} (f g : List α) (d : α) {sp dp n : Nat} (h1 : sp + n ≤ f.length) (h2 : dp + n ≤ g.length) (j : Nat) : (en_cpy f g sp dp n).getD j d = va_cpy (fun j => f.getD j d) (fun j => g.getD j d) sp dp n j := by
  unfold en_cpy va_cpy
  rw [List.getD_eq_getElem?_getD]
  have e1 : (g.take dp).length = dp := by simp; omega
  have e2 : ((f.drop sp).take n).length = n := by simp; omega
  by_cases hj : j < dp
  · rw [if_neg (by omega), List.getElem?_append_left (by omega), List.getElem?_take, if_pos hj]
    rfl
  · rw [List.getElem?_append_right (by omega), e1]
    by_cases hk : j < dp + n
    · rw [if_pos (by omega), List.getElem?_append_left (by omega), List.getElem?_take, if_pos (by omega), List.getElem?_drop]
      rfl
    · rw [if_neg (by omega), List.getElem?_append_right (by omega), e2, List.getElem?_drop]
      show _ = g[j]?.getD d
      congr 2
      omega
theorem en_cpy_length {α : Type} (f g : List α) {sp dp n : Nat} (h1 : sp + n ≤ f.length) (h2 : dp + n ≤ g.length) : (en_cpy f g sp dp n).length = g.length := by
  unfold en_cpy
  simp
  omega
theorem en_fit_ok (G : en_G) {ty : FieldType} {v : Value} (h : en_fit ty v = true) : narrow ty (en_cv G v) = en_cv G v ∧ fits ty (en_cv G v) = true := by
  cases ty <;> cases v <;> first | (exact ⟨rfl, rfl⟩) | (exact absurd h Bool.false_ne_true) | skip
  rename_i x
  have h2 : x = 0 ∨ x = 1 := by simpa [en_fit] using h
  rcases h2 with rfl | rfl
  · exact ⟨(by decide +kernel : narrow .boolean (.int 0) = .int 0), (by decide +kernel : fits .boolean (.int 0) = true)⟩
  · exact ⟨(by decide +kernel : narrow .boolean (.int 1) = .int 1), (by decide +kernel : fits .boolean (.int 1) = true)⟩
theorem en_bool {x : Int32} (h : x = 0 ∨ x = 1) : narrow .boolean (.int x) = .int x := by
  rcases h with rfl | rfl <;> decide +kernel
theorem en_warmM {s U : State} (hW : s.WarmedH U.vm) {q : String × Nat × MethodName × String} (h : va_Nw (.methodLinkNest q.1 q.2.1 q.2.2.1 q.2.2.2) s) : va_Nw (.methodLinkNest q.1 q.2.1 q.2.2.1 q.2.2.2) U := va_Nw.warmM hW h
theorem en_K.warm {G : en_G} {s U : State} {locs : List Loc} (hW : s.WarmedH U.vm) (hS : va_S (fun q => G.1 ≤ q) s.heap U.heap locs) (h : en_K G s) : en_K G U := ⟨va_K.moved hW.alike h.1, va_AO.moved hW.alike h.2.1, va_AO.moved hW.alike h.2.2.1, fun q hq => en_warmM hW (h.2.2.2.1 q hq), fun i q hq => vk_R.warm hW (h.2.2.2.2.1 i q hq), (h.2.2.2.2.2.moved hW.alike).kept hS.2.1⟩
theorem en_K.calling {G : en_G} {U : State} (g : JFrame) (mk : MethodId) (a : Array Value) (h : en_K G U) : en_K G (U.calling g mk a) :=
  ⟨va_K.moved (u := U) (U := U.calling g mk a) (Vm.Alike.refl U.vm) h.1, va_AO.moved (u := U) (U := U.calling g mk a) (Vm.Alike.refl U.vm) h.2.1, va_AO.moved (u := U) (U := U.calling g mk a) (Vm.Alike.refl U.vm) h.2.2.1, fun q hq => va_Nw.same rfl (rfl : U.vm = (U.calling g mk a).vm) (h.2.2.2.1 q hq), fun i q hq => vk_R.same (rfl : (U.calling g mk a).vm = U.vm) (h.2.2.2.2.1 i q hq), h.2.2.2.2.2.moved (u := U) (U := U.calling g mk a) (Vm.Alike.refl U.vm)⟩
theorem en_tysA {G : en_G} {t : Nat} (h : t < 5) : (en_tys G)[t]? = some (G.2.2.1 t, en_ty t) := by
  rcases (show t = 0 ∨ t = 1 ∨ t = 2 ∨ t = 3 ∨ t = 4 by omega) with rfl | rfl | rfl | rfl | rfl <;> rfl
/-- a new cell -/
theorem en_push {G : en_G} {s : State} {n0 k0 : Nat} {h : en_H} {H H1 : Heap} {locs : List Loc} {cells slots : Nat} (hr : en_Rl G s n0 k0 h H locs cells slots) {e : en_E} (n : Nat) (e1 : va_at G.2.1 en_cl (H.size, en_ce G e) H1) (z1 : H1.size = H.size + 1) (o1 : ∀ q : Nat, q < H.size → H1[q]? = H[q]?) : en_Rl G s n0 k0 (h.1 ++ [e], h.2 + n) H1 locs (cells + 1) (slots + n) := by
  obtain ⟨hP, hz, hS, hc, hk⟩ := hr
  refine ⟨?_, ?_, ⟨Nat.le_trans hS.1 (by omega), fun x h1 h2 => (o1 x (Nat.lt_of_lt_of_le h1 hS.1)).trans (hS.2.1 x h1 h2), hS.2.2⟩, ?_, ?_⟩
  · show va_P G.2.1 en_cl (en_cw G (h.1 ++ [e])) H1
    rw [en_cw_app]
    refine (hP.kept fun k x hx => o1 x.1 ((hP k x hx).lt)).app (fun k x hx => ?_)
    have hz' : k < 1 := (List.getElem?_eq_some_iff.mp hx).1
    rw [show k = 0 by omega] at hx
    cases hx
    rw [← hz]
    exact e1
  · show H1.size = G.1 + (h.1 ++ [e]).length
    rw [List.length_append, z1, hz]
    simp
    omega
  · show cells + 1 + n0 = (h.1 ++ [e]).length
    rw [List.length_append]
    simp
    omega
  · show slots + n + k0 = h.2 + n
    omega
/-- a cell changed -/
theorem en_wrote {G : en_G} {s : State} {n0 k0 : Nat} {h : en_H} {H H1 : Heap} {locs locs1 : List Loc} {cells slots : Nat} (hr : en_Rl G s n0 k0 h H locs cells slots) {p : Nat} {e : en_E} (hP : va_P G.2.1 en_cl (en_cw G (h.1.set p e)) H1) (hz : H1.size = H.size) (hS : va_S (fun q => G.1 ≤ q) s.heap H1 locs1) : en_Rl G s n0 k0 (h.1.set p e, h.2) H1 locs1 cells slots := by
  refine ⟨hP, ?_, hS, ?_, hr.2.2.2.2⟩
  · show H1.size = G.1 + (h.1.set p e).length
    rw [List.length_set, hz]
    exact hr.2.1
  · show cells + n0 = (h.1.set p e).length
    rw [List.length_set]
    exact hr.2.2.2.1
theorem en_ul_0 : ∀ k, k < 15 → tables_1[((en_lps.getD 0 []).getD k 0)]? = some (u_lay RX0 TX0 k) := by decide +kernel
theorem en_in_0 : tables_1[(en_cps.getD 0 (0, 0)).1]? = some (.instantiable RX0 15) := by decide +kernel
theorem en_ii_0 : tables_1[(en_cps.getD 0 (0, 0)).2]? = some (.initialized RX0) := by decide +kernel
theorem en_dd_0 : ∀ j, j < 15 → defaultValue (tyX0 j) = vp_V (en_dflt 0) j := by decide +kernel
theorem en_ul_1 : ∀ k, k < 19 → tables_1[((en_lps.getD 1 []).getD k 0)]? = some (u_lay RX1 TX1 k) := by decide +kernel
theorem en_in_1 : tables_1[(en_cps.getD 1 (0, 0)).1]? = some (.instantiable RX1 19) := by decide +kernel
theorem en_ii_1 : tables_1[(en_cps.getD 1 (0, 0)).2]? = some (.initialized RX1) := by decide +kernel
theorem en_dd_1 : ∀ j, j < 19 → defaultValue (tyX1 j) = vp_V (en_dflt 1) j := by decide +kernel
theorem en_ul_2 : ∀ k, k < 13 → tables_1[((en_lps.getD 2 []).getD k 0)]? = some (u_lay RX2 TX2 k) := by decide +kernel
theorem en_in_2 : tables_1[(en_cps.getD 2 (0, 0)).1]? = some (.instantiable RX2 13) := by decide +kernel
theorem en_ii_2 : tables_1[(en_cps.getD 2 (0, 0)).2]? = some (.initialized RX2) := by decide +kernel
theorem en_dd_2 : ∀ j, j < 13 → defaultValue (tyX2 j) = vp_V (en_dflt 2) j := by decide +kernel
theorem en_ul_3 : ∀ k, k < 4 → tables_1[((en_lps.getD 3 []).getD k 0)]? = some (u_lay RX3 TX3 k) := by decide +kernel
theorem en_in_3 : tables_1[(en_cps.getD 3 (0, 0)).1]? = some (.instantiable RX3 4) := by decide +kernel
theorem en_ii_3 : tables_1[(en_cps.getD 3 (0, 0)).2]? = some (.initialized RX3) := by decide +kernel
theorem en_dd_3 : ∀ j, j < 4 → defaultValue (tyX3 j) = vp_V (en_dflt 3) j := by decide +kernel
theorem en_ul_4 : ∀ k, k < 9 → tables_1[((en_lps.getD 4 []).getD k 0)]? = some (u_lay RX4 TX4 k) := by decide +kernel
theorem en_in_4 : tables_1[(en_cps.getD 4 (0, 0)).1]? = some (.instantiable RX4 9) := by decide +kernel
theorem en_ii_4 : tables_1[(en_cps.getD 4 (0, 0)).2]? = some (.initialized RX4) := by decide +kernel
theorem en_dd_4 : ∀ j, j < 9 → defaultValue (tyX4 j) = vp_V (en_dflt 4) j := by decide +kernel
theorem en_ul_5 : ∀ k, k < 7 → tables_1[((en_lps.getD 5 []).getD k 0)]? = some (u_lay RX5 TX5 k) := by decide +kernel
theorem en_in_5 : tables_1[(en_cps.getD 5 (0, 0)).1]? = some (.instantiable RX5 7) := by decide +kernel
theorem en_ii_5 : tables_1[(en_cps.getD 5 (0, 0)).2]? = some (.initialized RX5) := by decide +kernel
theorem en_dd_5 : ∀ j, j < 7 → defaultValue (tyX5 j) = vp_V (en_dflt 5) j := by decide +kernel
theorem en_ul_6 : ∀ k, k < 6 → tables_1[((en_lps.getD 6 []).getD k 0)]? = some (u_lay RX6 TX6 k) := by decide +kernel
theorem en_in_6 : tables_1[(en_cps.getD 6 (0, 0)).1]? = some (.instantiable RX6 6) := by decide +kernel
theorem en_ii_6 : tables_1[(en_cps.getD 6 (0, 0)).2]? = some (.initialized RX6) := by decide +kernel
theorem en_dd_6 : ∀ j, j < 6 → defaultValue (tyX6 j) = vp_V (en_dflt 6) j := by decide +kernel
theorem en_ul_7 : ∀ k, k < 6 → tables_1[((en_lps.getD 7 []).getD k 0)]? = some (u_lay RX7 TX7 k) := by decide +kernel
theorem en_in_7 : tables_1[(en_cps.getD 7 (0, 0)).1]? = some (.instantiable RX7 6) := by decide +kernel
theorem en_ii_7 : tables_1[(en_cps.getD 7 (0, 0)).2]? = some (.initialized RX7) := by decide +kernel
theorem en_dd_7 : ∀ j, j < 6 → defaultValue (tyX7 j) = vp_V (en_dflt 7) j := by decide +kernel
theorem en_ul_8 : ∀ k, k < 2 → tables_1[((en_lps.getD 8 []).getD k 0)]? = some (u_lay RX8 TX8 k) := by decide +kernel
theorem en_in_8 : tables_1[(en_cps.getD 8 (0, 0)).1]? = some (.instantiable RX8 2) := by decide +kernel
theorem en_ii_8 : tables_1[(en_cps.getD 8 (0, 0)).2]? = some (.initialized RX8) := by decide +kernel
theorem en_dd_8 : ∀ j, j < 2 → defaultValue (tyX8 j) = vp_V (en_dflt 8) j := by decide +kernel
theorem en_ul_9 : ∀ k, k < 1 → tables_1[((en_lps.getD 9 []).getD k 0)]? = some (u_lay RX9 TX9 k) := by decide +kernel
theorem en_in_9 : tables_1[(en_cps.getD 9 (0, 0)).1]? = some (.instantiable RX9 1) := by decide +kernel
theorem en_ii_9 : tables_1[(en_cps.getD 9 (0, 0)).2]? = some (.initialized RX9) := by decide +kernel
theorem en_dd_9 : ∀ j, j < 1 → defaultValue (tyX9 j) = vp_V (en_dflt 9) j := by decide +kernel
theorem en_ul_10 : ∀ k, k < 18 → tables_1[((en_lps.getD 10 []).getD k 0)]? = some (u_lay RX10 TX10 k) := by decide +kernel
theorem en_in_10 : tables_1[(en_cps.getD 10 (0, 0)).1]? = some (.instantiable RX10 18) := by decide +kernel
theorem en_ii_10 : tables_1[(en_cps.getD 10 (0, 0)).2]? = some (.initialized RX10) := by decide +kernel
theorem en_dd_10 : ∀ j, j < 18 → defaultValue (tyX10 j) = vp_V (en_dflt 10) j := by decide +kernel
theorem en_ul_11 : ∀ k, k < 52 → tables_1[((en_lps.getD 11 []).getD k 0)]? = some (u_lay RX11 TX11 k) := by decide +kernel
theorem en_in_11 : tables_1[(en_cps.getD 11 (0, 0)).1]? = some (.instantiable RX11 52) := by decide +kernel
theorem en_ii_11 : tables_1[(en_cps.getD 11 (0, 0)).2]? = some (.initialized RX11) := by decide +kernel
theorem en_dd_11 : ∀ j, j < 52 → defaultValue (tyX11 j) = vp_V (en_dflt 11) j := by decide +kernel
theorem en_glay (C : String) (T : u_T) (k : Nat) : goodWord (u_lay C T k) = true := by unfold u_lay; split <;> rfl
theorem en_ulw {C : String} {T : u_T} {N : Nat} {ps : List Nat} (h : ∀ k, k < N → tables_1[(ps.getD k 0)]? = some (u_lay C T k)) : ∀ w ∈ u_ws C T N, w ∈ en_W0 := by
  intro w hw
  obtain ⟨k, hk, rfl⟩ := List.mem_map.mp hw
  exact en_in (h k (List.mem_range.mp hk)) (en_glay C T k)
theorem en_clf {ci : Nat} {C : String} {T : u_T} {N : Nat} (hc : en_cl[ci]? = some (C, T, N)) : (∀ w ∈ u_ws C T N, w ∈ en_W0) ∧ (∀ k, k < N → parseFieldDescriptor (T k).2.2.1 = some (en_tyf ci k)) ∧ (∀ a, a < N → ∀ b, b < N → a ≠ b → (T a).2.1 ≠ (T b).2.1) ∧ Jvm.Cond.instantiable C N ∈ en_W0 ∧ Jvm.Cond.initialized C ∈ en_W0 ∧ (∀ j, j < N → defaultValue (en_tyf ci j) = vp_V (en_dflt ci) j) ∧ (en_dflt ci).length = N := by
  match ci, hc with
  | 0, hc => cases hc; exact ⟨en_ulw en_ul_0, tyX0_ok, nmX0, en_in en_in_0 rfl, en_in en_ii_0 rfl, en_dd_0, rfl⟩
  | 1, hc => cases hc; exact ⟨en_ulw en_ul_1, tyX1_ok, nmX1, en_in en_in_1 rfl, en_in en_ii_1 rfl, en_dd_1, rfl⟩
  | 2, hc => cases hc; exact ⟨en_ulw en_ul_2, tyX2_ok, nmX2, en_in en_in_2 rfl, en_in en_ii_2 rfl, en_dd_2, rfl⟩
  | 3, hc => cases hc; exact ⟨en_ulw en_ul_3, tyX3_ok, nmX3, en_in en_in_3 rfl, en_in en_ii_3 rfl, en_dd_3, rfl⟩
  | 4, hc => cases hc; exact ⟨en_ulw en_ul_4, tyX4_ok, nmX4, en_in en_in_4 rfl, en_in en_ii_4 rfl, en_dd_4, rfl⟩
  | 5, hc => cases hc; exact ⟨en_ulw en_ul_5, tyX5_ok, nmX5, en_in en_in_5 rfl, en_in en_ii_5 rfl, en_dd_5, rfl⟩
  | 6, hc => cases hc; exact ⟨en_ulw en_ul_6, tyX6_ok, nmX6, en_in en_in_6 rfl, en_in en_ii_6 rfl, en_dd_6, rfl⟩
  | 7, hc => cases hc; exact ⟨en_ulw en_ul_7, tyX7_ok, nmX7, en_in en_in_7 rfl, en_in en_ii_7 rfl, en_dd_7, rfl⟩
  | 8, hc => cases hc; exact ⟨en_ulw en_ul_8, tyX8_ok, nmX8, en_in en_in_8 rfl, en_in en_ii_8 rfl, en_dd_8, rfl⟩
  | 9, hc => cases hc; exact ⟨en_ulw en_ul_9, tyX9_ok, nmX9, en_in en_in_9 rfl, en_in en_ii_9 rfl, en_dd_9, rfl⟩
  | 10, hc => cases hc; exact ⟨en_ulw en_ul_10, tyX10_ok, nmX10, en_in en_in_10 rfl, en_in en_ii_10 rfl, en_dd_10, rfl⟩
  | 11, hc => cases hc; exact ⟨en_ulw en_ul_11, tyX11_ok, nmX11, en_in en_in_11 rfl, en_in en_ii_11 rfl, en_dd_11, rfl⟩
  | n + 12, hc => simp [en_cl] at hc
theorem en_oc : (Jvm.Cond.code Lib.objectInit ⟨#[0xb1]⟩ 1 none) ∈ en_W0 := en_in (c := 28) (by decide +kernel) rfl
theorem en_oi : (Jvm.Cond.instanceMethod Lib.objectInit) ∈ en_W0 := en_in (c := 27) (by decide +kernel) rfl
theorem en_an : (Jvm.Cond.native arraycopyName) ∈ en_W0 := en_in (c := 556) (by decide +kernel) rfl
theorem en_as : (Jvm.Cond.static arraycopyName) ∈ en_W0 := en_in (c := 555) (by decide +kernel) rfl
theorem en_ai : (Jvm.Cond.initialized "java/lang/System") ∈ en_W0 := en_in (c := 13) (by decide +kernel) rfl
theorem en_mi : (Jvm.Cond.initialized "java/lang/Math") ∈ en_W0 := en_in (c := 19) (by decide +kernel) rfl
theorem en_mxs : (Jvm.Cond.static Lib.Math.max.name) ∈ en_W0 := en_in (c := 874) (by decide +kernel) rfl
theorem en_mxc : (Jvm.Cond.code Lib.Math.max.name Lib.Math.max.code 2 (some .int)) ∈ en_W0 := en_in (c := 875) (by decide +kernel) rfl
theorem en_mns : (Jvm.Cond.static Lib.Math.min.name) ∈ en_W0 := en_in (c := 867) (by decide +kernel) rfl
theorem en_mnc : (Jvm.Cond.code Lib.Math.min.name Lib.Math.min.code 2 (some .int)) ∈ en_W0 := en_in (c := 868) (by decide +kernel) rfl
theorem en_mxls : (Jvm.Cond.static Lib.MathLoose.max_long.x) ∈ en_W0 := en_in (c := 1037) (by decide +kernel) rfl
theorem en_mxlc : (Jvm.Cond.code Lib.MathLoose.max_long.x Lib.MathLoose.max_long.code 4 (some .long)) ∈ en_W0 := en_in (c := 1038) (by decide +kernel) rfl
theorem en_mnls : (Jvm.Cond.static Lib.MathLoose.min_long.x) ∈ en_W0 := en_in (c := 1034) (by decide +kernel) rfl
theorem en_mnlc : (Jvm.Cond.code Lib.MathLoose.min_long.x Lib.MathLoose.min_long.code 4 (some .long)) ∈ en_W0 := en_in (c := 1035) (by decide +kernel) rfl
theorem en_aI : (Jvm.Cond.arrayClass .int) ∈ en_W0 := en_in (c := 84) (by decide +kernel) rfl
theorem en_aJ : (Jvm.Cond.arrayClass .long) ∈ en_W0 := en_in (c := 240) (by decide +kernel) rfl
theorem en_aZ : (Jvm.Cond.arrayClass .boolean) ∈ en_W0 := en_in (c := 178) (by decide +kernel) rfl
