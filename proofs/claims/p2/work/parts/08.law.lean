/-! THE CLAIM OUT OF ONE WALK OF THE LAW'S BODY. Your part is whole_start (and what it stands on); all else here is the same for every law, but numbers. -/
def R_law : String := "LeftHandsLaw"
def lw_P (b : Addr) (xs : List Int32) (args : Array Value) (s : State) : Prop := args = #[.ref b] ∧ s.IntsAt b xs ∧ xs.length ≤ 3584 ∧ (Jvm.Cond.and given_1 narrow_1).before args s = true
def lw_Q (_ : Array Value) (s : State) (o : Outcome) (t : State) : Prop := o = .returned (some (.int 1)) ∧ Framed s o t [] 600000 7302249
def lw_Z (below : List Frame) (a : Array Value) (s : State) : State → Prop := fun t => ∃ o, t.status = .running ∧ Ended t below o ∧ lw_Q a s o t
/-- the law's own end, with 1 on the stack, nothing written that was there before, its room as the claim has it -/
theorem lw_ret {p : Program} {l : Launch} {e : Env} {s : State} {m : MethodId} {below : List Frame} {meth : Method} {c : Code} {b : Nat} (hx : p.tables.exec = Jvm.exec) (hb : c.code = code) (hr : meth.sig.returnType = ret) (hlocks : meth.locks = false) {pc : Nat} {H : Heap} {ls : Array Slot} (hdg : decode code pc = .ok (.ireturn, 1)) : W p l e room_1 s m #[Value.ref b] below meth c H [] 600000 7302249 (lw_Z below #[Value.ref b] s) (F0 m pc ls [.int 1]) := by
  intro T hT X
  obtain ⟨fs, hret, hrun, hended, hW, hframe⟩ := X.leave (v := some (.int 1)) (hlocks := hlocks) (fun h => by rw [hr] at h; cases h)
  have hmeth' : T.vm.method? m = some meth := X.method'
  refine ⟨T.setFrames fs, ?_, .returned (some (.int 1)), hrun, hended, rfl, ⟨_, rfl⟩, hW, hframe⟩
  jvm_step X.here [X.here.top, hx, hb, hdg, hmeth', hr, ret, narrow_b1]
  (try refine ⟨rfl, ?_⟩); (try refine ⟨rfl, ?_⟩)
  first | (intro acts; rw [hret _ acts rfl rfl rfl]) | rw [hret _ _ rfl rfl rfl]
  exact Steps.refl _
/-- what holds at the law's entry: the machine, the code, the tables' words (any of lw_tbl by 'hts w (by decide +kernel)'), the script of L ints xs at the cell b, what the Statement gives of the start (any of its parts by flat_of_before) -/
def lw_At (p : Program) (s : State) (m : MethodId) (meth : Method) (c : Code) (b L : Nat) (xs : Nat → Int32) : Prop :=
  p.tables.exec = Jvm.exec ∧ c.code = code ∧ meth.sig.returnType = ret ∧ c.maxLocals = 4 ∧ s.vm.findClass R_law = some m.cls ∧ (∀ w ∈ lw_tbl, w.before #[Value.ref b] s = true) ∧ va_X b L xs s s.heap ∧ b < s.heap.size ∧ meth.locks = false ∧ (Jvm.Cond.and given_1 narrow_1).before #[Value.ref b] s = true
theorem en_oL : (Jvm.Cond.arrayOver (.object "LeftHands$Law")) ∈ lw_tbl := List.mem_append_right _ (List.mem_of_getElem? (i := 36) (by decide +kernel))
theorem en_oB : (Jvm.Cond.arrayOver (.object "LeftHands$Bazaar")) ∈ lw_tbl := List.mem_append_right _ (List.mem_of_getElem? (i := 162) (by decide +kernel))
theorem en_nst : ∀ k, k < 10 → tables_1[en_nps.getD k 0]? = (en_nest[k]?).map (fun q => Jvm.Cond.methodLinkNest q.1 q.2.1 q.2.2.1 q.2.2.2) := by decide +kernel
theorem en_nlen : en_nest.length = 10 := rfl
def en_strok (q : String × Nat × String) : Bool := decide ((Jvm.Cond.exactly (.string q.1 q.2.1) "java/lang/String") ∈ flatC (Jvm.Cond.and given_1 narrow_1)) && decide ((Jvm.Cond.stringRef q.1 q.2.1 q.2.2) ∈ tables_1)
theorem en_strs : ∀ q ∈ en_str, en_strok q = true := by decide +kernel
theorem en_W0_hts {args : Array Value} {s : State} (hts : ∀ w ∈ lw_tbl, w.before args s = true) : ∀ w ∈ en_W0, w.before args s = true := fun w hw => hts w (List.mem_filter.mp hw).1
theorem en_arr0 {args : Array Value} {s : State} (hts : ∀ w ∈ lw_tbl, w.before args s = true) : ∀ t : Nat, ∃ c : ClassId, t < 5 → ArrOfT s c (en_ty t) ∧ va_RA s c (en_ty t) := by
  have h0 := en_W0_hts hts
  have prim : ∀ ty : FieldType, (Jvm.Cond.arrayClass ty).before args s = true → ∃ c : ClassId, ArrOfT s c ty ∧ s.vm.findClass ("[" ++ ty.toString) = some c := by
    intro ty h
    obtain ⟨c, k, comp, h1, h2, h3⟩ := Cond.arrayClass_spec h
    exact ⟨c, fun n z => ⟨fun k h => (by cases h), k, h2, comp, h3⟩, h1⟩
  have objs : ∀ C : String, va_AO C s → ∃ c : ClassId, ArrOfT s c (.object C) ∧ va_RA s c (.object C) := by
    intro C h
    obtain ⟨comp, c, k, h1, h2, h3, h4, h5⟩ := Cond.arrayOver_spec h
    exact ⟨c, fun n z => ⟨fun k h => (by cases h), k, h3, comp, h4⟩, k, comp, h3, h4, h1, h5⟩
  intro t
  match t with
  | 0 =>
    obtain ⟨c, h1, h2⟩ := prim .int (h0 _ en_aI)
    exact ⟨c, fun _ => ⟨h1, h2⟩⟩
  | 1 =>
    obtain ⟨c, h1, h2⟩ := prim .long (h0 _ en_aJ)
    exact ⟨c, fun _ => ⟨h1, h2⟩⟩
  | 2 =>
    obtain ⟨c, h1, h2⟩ := prim .boolean (h0 _ en_aZ)
    exact ⟨c, fun _ => ⟨h1, h2⟩⟩
  | 3 =>
    obtain ⟨c, h1, h2⟩ := objs "LeftHands$Law" (va_AO.of (hts _ en_oL))
    exact ⟨c, fun _ => ⟨h1, h2⟩⟩
  | 4 =>
    obtain ⟨c, h1, h2⟩ := objs "LeftHands$Bazaar" (va_AO.of (hts _ en_oB))
    exact ⟨c, fun _ => ⟨h1, h2⟩⟩
  | n + 5 => exact ⟨0, fun h => absurd h (by omega)⟩
theorem en_kinds {args : Array Value} {s : State} (hts : ∀ w ∈ lw_tbl, w.before args s = true) : ∀ ci : Nat, ∃ q : ClassId × (Nat → Nat), ∀ (C : String) (T : u_T) (N : Nat), en_cl[ci]? = some (C, T, N) → u_Kn s C T N q.1 q.2 := by
  have h0 := en_W0_hts hts
  intro ci
  cases hc : en_cl[ci]? with
  | none => exact ⟨(0, fun k => k), fun C T N h => by cases h⟩
  | some r =>
    obtain ⟨C, T, N⟩ := r
    obtain ⟨c1, c2, c3, c4, -⟩ := en_clf hc
    obtain ⟨cC, iS, hKn⟩ := u_known (C := C) (T := T) (N := N) (n := N) h0 c1 (h0 _ c4)
    exact ⟨(cC, iS), fun C' T' N' h => by cases h; exact hKn⟩
theorem en_texts {args : Array Value} {s : State} (hts : ∀ w ∈ lw_tbl, w.before args s = true) (hg : (Jvm.Cond.and given_1 narrow_1).before args s = true) : ∀ i : Nat, ∃ a : Nat, ∀ q : String × Nat × String, en_str[i]? = some q → vk_R q.1 q.2.1 q.2.2 a s := by
  intro i
  cases hc : en_str[i]? with
  | none => exact ⟨0, fun q h => by cases h⟩
  | some q =>
    have h1 := en_strs q (List.mem_of_getElem? hc)
    simp only [en_strok, Bool.and_eq_true, decide_eq_true_eq] at h1
    have h2 := flat_of_before _ hg _ h1.1
    obtain ⟨a, c, cell, k, q1, -⟩ := Cond.exactly_spec h2
    have h3 := hts _ (List.mem_append_right _ h1.2)
    exact ⟨a, fun q' h => by cases h; exact vk_R.of h3 q1⟩
def en_I0v : en_I := (⟨R_law0, "law", "([I)Z"⟩, cL_law, 4, some .boolean, 100, 1)
/-- the law's walk, out of a run of the engine -/
theorem en_law {p : Program} {e : Env} {s : State} {m : MethodId} {below : List Frame} {meth : Method} {c : Code} (l : Launch) {b L : Nat} {xs : Nat → Int32} (C0 : lw_At p s m meth c b L xs) {BS : List en_Bs} (hB : en_HB BS) {bs : en_Bs} (hbs : en_okB en_I0v bs = true) {ys : List Int32} (hy : ys.length = L ∧ ∀ j, j < L → ys.getD j 0 = xs j) {d F f : Nat} (hd : d ≤ 1000) {h' : en_H} (hrun : en_go en_IS BS (en_run en_IS BS d F) (some ys) (some .boolean) bs f (0, [(0, .float 0)], [], ([], 0)) = some (some (.int 1), h')) (hlim : h'.1.length ≤ 600000 ∧ h'.2 ≤ 7302249) : W p l e room_1 s m #[Value.ref b] below meth c s.heap [] 0 0 (lw_Z below #[Value.ref b] s) (entryFrame m ([Value.ref b] : List Value).toArray 4) := by
  obtain ⟨hx, hb, hr, hml, hown, hts, hX, hbl, hlocks, hgv⟩ := id C0
  obtain ⟨dq, hdq⟩ := Classical.axiomOfChoice (en_kinds hts)
  obtain ⟨cA, hcA⟩ := Classical.axiomOfChoice (en_arr0 hts)
  obtain ⟨tA, htA⟩ := Classical.axiomOfChoice (en_texts hts hgv)
  obtain ⟨G, hG⟩ : ∃ G : en_G, G = (s.heap.size, (fun k => (dq k).1, fun k => (dq k).2), cA, fun k => match k with | 0 => b | k + 1 => tA k) := ⟨_, rfl⟩
  have g1 : G.1 = s.heap.size := by rw [hG]
  have g2 : G.2.2.2 0 = b := by rw [hG]
  have hK : en_K G s := by
    refine ⟨⟨fun ci q hq => ?_, fun t q hq => ?_⟩, va_AO.of (hts _ en_oL), va_AO.of (hts _ en_oB), fun q hq => ?_, fun i q hq => ?_⟩
    · obtain ⟨C, T, N⟩ := q
      rw [hG]
      exact hdq ci C T N hq
    · have ht : t < 5 := (List.getElem?_eq_some_iff.mp hq).1
      rw [en_tysA ht] at hq
      cases hq
      rw [hG]
      exact hcA t ht
    · obtain ⟨k, hk⟩ := List.getElem?_of_mem hq
      have hk10 : k < 10 := by have := (List.getElem?_eq_some_iff.mp hk).1; rw [en_nlen] at this; exact this
      have h1 := en_nst k hk10
      rw [hk] at h1
      exact va_Nw.of rfl (hts _ (List.mem_append_right _ (List.mem_of_getElem? h1)))
    · have h1 := htA i q hq
      rw [hG]
      exact h1
  have hF : en_Fr G (some ys) en_I0v room_1 p s m #[Value.ref b] meth c := by
    refine ⟨hx, hb, hml, hown, en_W0_hts hts, hK, Nat.le_of_eq g1, ?_, ⟨Nat.le_of_ble_eq_true rfl, Nat.le_of_ble_eq_true rfl⟩, fun h => absurd h (by decide)⟩
    intro zs hz
    cases hz
    rw [g1, g2]
    obtain ⟨scr, h1, h2, h3, h4, h5⟩ := hX
    exact ⟨⟨scr, h1, h2, h3, by rw [h4, hy.1], fun j hj => by rw [h5 j (by rw [← hy.1]; exact hj)]; show some (Value.int (xs j)) = some (Value.int (ys.getD j 0)); rw [hy.2 j (by rw [← hy.1]; exact hj)]⟩, hbl, hbl⟩
  have hl := lv_entry ([.ref b]) (n := 4) (Nat.le_of_ble_eq_true rfl)
  rw [lg_entry_eq]
  generalize (lg_sl ([.ref b]) ++ List.replicate (4 - (lg_sl ([.ref b])).length) Slot.unset).toArray = ls at hl ⊢
  have hl2 : lv_has ls 4 (([(0, Value.float 0)] : en_L).map (en_cq G)) := by
    have e1 : ([(0, Value.float 0)] : en_L).map (en_cq G) = [(0, Value.ref b)] := by
      show [(0, Value.ref (G.2.2.2 (0 : UInt32).toNat))] = [(0, Value.ref b)]
      rw [show (0 : UInt32).toNat = 0 from rfl, g2]
    rw [e1]
    exact hl
  refine en_go_sound (I := en_I0v) (n0 := 0) (k0 := 0) (d := d) hF (fun i as h w hw => en_run_mono hw) (fun i as h w hw => en_run_sound hB d F i as h w hw) hbs ⟨by show d + 1 ≤ 2048; omega, by show 64 * (d + 1) ≤ 84000; omega⟩ ⟨by show _ ≤ 0 + 600000; have := hlim.1; dsimp only; omega, by show _ ≤ 0 + 7302249; have := hlim.2; dsimp only; omega⟩ ?_ f hrun hl2 ⟨fun k q h => by simp [en_cw] at h, by rw [g1]; rfl, ?_, rfl, rfl⟩
  · intro pc H locs cells slots ls' hrk hr2
    refine va_forget (fun q hq => by have := hr2.2.2.1.2.2 q hq; rw [← g1]; exact this) ?_
    refine W.widen (k := 600000) (n := 7302249) (by have := hr2.2.2.2.1; have := hlim.1; dsimp only at *; omega) (by have := hr2.2.2.2.2; have := hlim.2; dsimp only at *; omega) ?_
    exact lw_ret hx hb hr hlocks hrk.1
  · rw [g1]
    exact va_S.rf
