/-! THE CLAIM OUT OF ONE WALK OF THE LAW'S BODY. Your part is whole_start (and what it stands on); all else here is the same for every law, but numbers. -/
def R_law : String := "LeftHandsLaw"
def lw_P (b : Addr) (xs : List Int32) (args : Array Value) (s : State) : Prop := args = #[.ref b] ∧ s.IntsAt b xs ∧ xs.length ≤ 3584 ∧ (Jvm.Cond.and given_1 narrow_1).before args s = true
def lw_Q (_ : Array Value) (s : State) (o : Outcome) (t : State) : Prop := o = .returned (some (.int 1)) ∧ Framed s o t [] 600000 7302249
def lw_Z (below : List Frame) (a : Array Value) (s : State) : State → Prop := fun t => ∃ o, t.status = .running ∧ Ended t below o ∧ lw_Q a s o t
/-- the law's own end, with 1 on the stack, nothing written that was there before, its room as the claim has it -/
theorem lw_ret {p : Program} {l : Launch} {e : Env} {s : State} {m : MethodId} {below : List Frame} {meth : Method} {c : Code} {b : Nat} (hx : p.tables.exec = Jvm.exec) (hb : c.code = code) (hr : meth.sig.returnType = ret) (hlocks : meth.locks = false) {pc : Nat} {H : Heap} {ls : Array Slot} (hdg : decode code pc = .ok (.ireturn, 1)) : W p l e room_1 s m #[Value.ref b] below meth c H [] 600000 7302249 (lw_Z below #[Value.ref b] s) (F0 m pc ls [.int 1]) := by
  intro T hT X
  obtain ⟨fs, hret, hrun, hended, hW, hframe⟩ := X.leave (v := some (.int 1)) (hlocks := hlocks) (fun h => by rw [hr] at h; cases h)
  have hmeth' : T.vm.method? m = some meth := X.method'
  refine ⟨T.setFrames fs, ?_, .returned (some (.int 1)), hrun, hended, rfl, ⟨_, rfl⟩, hW, hframe⟩
  jvm_step X.here [X.here.top, hx, hb, hdg, hmeth', hr, ret, narrow_b1]
  (try refine ⟨rfl, ?_⟩); (try refine ⟨rfl, ?_⟩)
  first | (intro acts; rw [hret _ acts rfl rfl rfl]) | rw [hret _ _ rfl rfl rfl]
  exact Steps.refl _
/-- what holds at the law's entry: the machine, the code, the tables' words (any of lw_tbl by 'hts w (by decide +kernel)'), the script of L ints xs at the cell b, what the Statement gives of the start (any of its parts by flat_of_before) -/
def lw_At (p : Program) (s : State) (m : MethodId) (meth : Method) (c : Code) (b L : Nat) (xs : Nat → Int32) : Prop :=
  p.tables.exec = Jvm.exec ∧ c.code = code ∧ meth.sig.returnType = ret ∧ c.maxLocals = 4 ∧ s.vm.findClass R_law = some m.cls ∧ (∀ w ∈ lw_tbl, w.before #[Value.ref b] s = true) ∧ va_X b L xs s s.heap ∧ b < s.heap.size ∧ meth.locks = false ∧ (Jvm.Cond.and given_1 narrow_1).before #[Value.ref b] s = true
theorem en_oL : (Jvm.Cond.arrayOver (.object "LeftHands$Law")) ∈ lw_tbl := List.mem_append_right _ (List.mem_of_getElem? (i := 36) (by decide +kernel))
theorem en_oB : (Jvm.Cond.arrayOver (.object "LeftHands$Bazaar")) ∈ lw_tbl := List.mem_append_right _ (List.mem_of_getElem? (i := 162) (by decide +kernel))
theorem st_ly1 : (Jvm.Cond.laysStatic "java/lang/String" "COMPACT_STRINGS" "Z") ∈ lw_tbl := List.mem_append_right _ (List.mem_of_getElem? (i := 627) (by decide +kernel))
theorem st_ly2 : (Jvm.Cond.laysStatic "jdk/internal/util/Preconditions" "SIOOBE_FORMATTER" "Ljava/util/function/BiFunction;") ∈ lw_tbl := List.mem_append_right _ (List.mem_of_getElem? (i := 643) (by decide +kernel))
theorem en_nst : ∀ k, k < 10 → tables_1[en_nps.getD k 0]? = (en_nest[k]?).map (fun q => Jvm.Cond.methodLinkNest q.1 q.2.1 q.2.2.1 q.2.2.2) := by decide +kernel
theorem en_nlen : en_nest.length = 10 := rfl
abbrev en_gn : List Jvm.Cond := flatC (Jvm.Cond.and given_1 narrow_1)
def en_tm (i : Nat) : Jvm.Term := match en_str[i]? with
  | some q => .string q.1 q.2.1
  | none => .int 0
def en_tv (i : Nat) : Jvm.Term := .field (en_tm i) "java/lang/String" "value" "[B"
def en_inG (w : Jvm.Cond) : Bool := en_gn.any (fun x => decide (x = w))
theorem en_inG_of {w : Jvm.Cond} (h : en_inG w = true) : w ∈ flatC (Jvm.Cond.and given_1 narrow_1) := by
  obtain ⟨x, h1, h2⟩ := List.any_eq_true.mp h
  rw [← of_decide_eq_true h2]
  exact h1
def en_strok (q : String × Nat × String) : Bool := decide ((Jvm.Cond.stringRef q.1 q.2.1 q.2.2) ∈ tables_1)
theorem en_strs : ∀ q ∈ en_str, en_strok q = true := by decide +kernel
theorem en_sx1 : ∀ i, i < 17 → (en_inG (.exactly (en_tm i) "java/lang/String") && en_inG (.eq (.field (en_tm i) "java/lang/String" "coder" "B") (.int 0)) && en_inG (.arrayOf (en_tv i) .byte) && en_inG (.eq (.length (en_tv i)) (.int (Int32.ofNat (en_tl.getD i 0))))) = true := by decide +kernel
theorem en_sx2 : ∀ i, i < 17 → ∀ j, j < en_tl.getD i 0 → en_inG (.eq (.elem (en_tv i) (.int (Int32.ofNat j))) (.int ((en_txt.getD i []).getD j 0))) = true := by decide +kernel
theorem en_sx3 : (en_inG (.eq (.static "java/lang/String" "COMPACT_STRINGS" "Z") (.int 1)) && en_inG (.isRef (.static "jdk/internal/util/Preconditions" "SIOOBE_FORMATTER" "Ljava/util/function/BiFunction;"))) = true := by decide +kernel
theorem en_W0_hts {args : Array Value} {s : State} (hts : ∀ w ∈ lw_tbl, w.before args s = true) : ∀ w ∈ en_W0, w.before args s = true := fun w hw => hts w (List.mem_filter.mp hw).1
theorem en_arr0 {args : Array Value} {s : State} (hts : ∀ w ∈ lw_tbl, w.before args s = true) : ∀ t : Nat, ∃ c : ClassId, t < 5 → ArrOfT s c (en_ty t) ∧ va_RA s c (en_ty t) := by
  have h0 := en_W0_hts hts
  have prim : ∀ ty : FieldType, (Jvm.Cond.arrayClass ty).before args s = true → ∃ c : ClassId, ArrOfT s c ty ∧ s.vm.findClass ("[" ++ ty.toString) = some c := by
    intro ty h
    obtain ⟨c, k, comp, h1, h2, h3⟩ := Cond.arrayClass_spec h
    exact ⟨c, fun n z => ⟨fun k h => (by cases h), k, h2, comp, h3⟩, h1⟩
  have objs : ∀ C : String, va_AO C s → ∃ c : ClassId, ArrOfT s c (.object C) ∧ va_RA s c (.object C) := by
    intro C h
    obtain ⟨comp, c, k, h1, h2, h3, h4, h5⟩ := Cond.arrayOver_spec h
    exact ⟨c, fun n z => ⟨fun k h => (by cases h), k, h3, comp, h4⟩, k, comp, h3, h4, h1, h5⟩
  intro t
  match t with
  | 0 =>
    obtain ⟨c, h1, h2⟩ := prim .int (h0 _ en_aI)
    exact ⟨c, fun _ => ⟨h1, h2⟩⟩
  | 1 =>
    obtain ⟨c, h1, h2⟩ := prim .long (h0 _ en_aJ)
    exact ⟨c, fun _ => ⟨h1, h2⟩⟩
  | 2 =>
    obtain ⟨c, h1, h2⟩ := prim .boolean (h0 _ en_aZ)
    exact ⟨c, fun _ => ⟨h1, h2⟩⟩
  | 3 =>
    obtain ⟨c, h1, h2⟩ := objs "LeftHands$Law" (va_AO.of (hts _ en_oL))
    exact ⟨c, fun _ => ⟨h1, h2⟩⟩
  | 4 =>
    obtain ⟨c, h1, h2⟩ := objs "LeftHands$Bazaar" (va_AO.of (hts _ en_oB))
    exact ⟨c, fun _ => ⟨h1, h2⟩⟩
  | n + 5 => exact ⟨0, fun h => absurd h (by omega)⟩
theorem en_kinds {args : Array Value} {s : State} (hts : ∀ w ∈ lw_tbl, w.before args s = true) : ∀ ci : Nat, ∃ q : ClassId × (Nat → Nat), ∀ (C : String) (T : u_T) (N : Nat), en_cl[ci]? = some (C, T, N) → u_Kn s C T N q.1 q.2 := by
  have h0 := en_W0_hts hts
  intro ci
  cases hc : en_cl[ci]? with
  | none => exact ⟨(0, fun k => k), fun C T N h => by cases h⟩
  | some r =>
    obtain ⟨C, T, N⟩ := r
    obtain ⟨c1, c2, c3, c4, -⟩ := en_clf hc
    obtain ⟨cC, iS, hKn⟩ := u_known (C := C) (T := T) (N := N) (n := N) h0 c1 (h0 _ c4)
    exact ⟨(cC, iS), fun C' T' N' h => by cases h; exact hKn⟩
theorem en_texts {args : Array Value} {s : State} (hts : ∀ w ∈ lw_tbl, w.before args s = true) (hg : (Jvm.Cond.and given_1 narrow_1).before args s = true) : ∃ tA adV : Nat → Nat, (∀ i : Nat, ∀ q : String × Nat × String, en_str[i]? = some q → vk_R q.1 q.2.1 q.2.2 (tA i) s) ∧ ∀ k : Nat, k < 17 → va_O "java/lang/String" (tA k) (fun q => s.heap.size ≤ q) s s.heap ∧ va_OF "java/lang/String" "coder" "B" (.int 0) (tA k) (fun q => s.heap.size ≤ q) s s.heap ∧ va_OF "java/lang/String" "value" "[B" (.ref (adV k)) (tA k) (fun q => s.heap.size ≤ q) s s.heap ∧ va_T .byte (adV k) (en_tl.getD k 0) (fun j => .int ((en_txt.getD k []).getD j 0)) (fun q => s.heap.size ≤ q) s s.heap := by
  have gg : ∀ w : Jvm.Cond, en_inG w = true → w.before args s = true := fun w h => flat_of_before _ hg _ (en_inG_of h)
  have hA : ∀ a : Nat, a < s.heap.size → ¬ s.heap.size ≤ a := fun a h => Nat.not_le.mpr h
  have x1 : ∀ i, i < 17 → (en_inG (.exactly (en_tm i) "java/lang/String") = true ∧ en_inG (.eq (.field (en_tm i) "java/lang/String" "coder" "B") (.int 0)) = true) ∧ en_inG (.arrayOf (en_tv i) .byte) = true ∧ en_inG (.eq (.length (en_tv i)) (.int (Int32.ofNat (en_tl.getD i 0)))) = true := by
    intro i hi
    have h := en_sx1 i hi
    rw [Bool.and_eq_true, Bool.and_eq_true, Bool.and_eq_true] at h
    exact ⟨h.1.1, h.1.2, h.2⟩
  have h0 : ∀ i : Nat, ∃ q : Nat × Nat, i < 17 → (en_tm i).eval args s none [] s = some (.ref q.1) ∧ va_O "java/lang/String" q.1 (fun q => s.heap.size ≤ q) s s.heap ∧ va_OF "java/lang/String" "coder" "B" (.int 0) q.1 (fun q => s.heap.size ≤ q) s s.heap ∧ va_OF "java/lang/String" "value" "[B" (.ref q.2) q.1 (fun q => s.heap.size ≤ q) s s.heap ∧ va_T .byte q.2 (en_tl.getD i 0) (fun j => .int ((en_txt.getD i []).getD j 0)) (fun q => s.heap.size ≤ q) s s.heap := by
    intro i
    by_cases hi : i < 17
    · obtain ⟨⟨y1, y2⟩, y3, y4⟩ := x1 i hi
      obtain ⟨a, c, cA, kA, q1, q2, q3, q4, q5, q6, -⟩ := Cond.exactly_spec (args := args) (first := s) (o := none) (s := s) (idx := []) (t := en_tm i) (cls := "java/lang/String") (gg _ y1)
      obtain ⟨t, ht, hT⟩ := va_Tof (f := fun j => .int ((en_txt.getD i []).getD j 0)) (A := fun q => s.heap.size ≤ q) (Nat.lt_of_le_of_lt (st_len i hi) (by decide)) (gg _ y3) (va_eqt (gg _ y4)) (fun j hj => va_eqt (gg _ (en_sx2 i hi j hj))) hA
      exact ⟨(a, t), fun _ => ⟨q1, ⟨cA, q3, q5, by rw [q6]; exact q2, hA a (Array.getElem?_eq_some_iff.mp q3).1⟩, vk_OFof q1 (va_eqt (gg _ y2)) hA, vk_OFof q1 ht hA, hT⟩⟩
    · exact ⟨(0, 0), fun h => absurd h hi⟩
  obtain ⟨ad, had⟩ := Classical.axiomOfChoice h0
  refine ⟨fun i => (ad i).1, fun i => (ad i).2, fun i q hq => ?_, fun k hk => (had k hk).2⟩
  have hi : i < 17 := (List.getElem?_eq_some_iff.mp hq).1
  have h1 := of_decide_eq_true (en_strs q (List.mem_of_getElem? hq))
  have h2 := (had i hi).1
  unfold en_tm at h2
  rw [hq] at h2
  exact vk_R.of (hts _ (List.mem_append_right _ h1)) h2
def en_I0v : en_I := (⟨R_law0, "law", "([I)Z"⟩, cL_law, 4, some .boolean, 100, 1)
/-- the law's walk, out of a run of the engine -/
theorem en_law {p : Program} {e : Env} {s : State} {m : MethodId} {below : List Frame} {meth : Method} {c : Code} (l : Launch) {b L : Nat} {xs : Nat → Int32} (C0 : lw_At p s m meth c b L xs) {BS : List en_Bs} (hB : en_HB BS) {bs : en_Bs} (hbs : en_okB en_I0v bs = true) {ys : List Int32} (hy : ys.length = L ∧ ∀ j, j < L → ys.getD j 0 = xs j) {d F f : Nat} (hd : d ≤ 1000) {h' : en_H} (hrun : en_go en_IS BS (en_run en_IS BS d F) (some ys) (some .boolean) bs f (0, [(0, .float 0)], [], ([], 0)) = some (some (.int 1), h')) (hlim : h'.1.length ≤ 600000 ∧ h'.2 ≤ 7302249) : W p l e room_1 s m #[Value.ref b] below meth c s.heap [] 0 0 (lw_Z below #[Value.ref b] s) (entryFrame m ([Value.ref b] : List Value).toArray 4) := by
  obtain ⟨hx, hb, hr, hml, hown, hts, hX, hbl, hlocks, hgv⟩ := id C0
  obtain ⟨dq, hdq⟩ := Classical.axiomOfChoice (en_kinds hts)
  obtain ⟨cA, hcA⟩ := Classical.axiomOfChoice (en_arr0 hts)
  obtain ⟨tA, adV, htA, htB⟩ := en_texts hts hgv
  obtain ⟨G, hG⟩ : ∃ G : en_G, G = (s.heap.size, (fun k => (dq k).1, fun k => (dq k).2), cA, fun k => match k with | 0 => b | k + 1 => tA k) := ⟨_, rfl⟩
  have g1 : G.1 = s.heap.size := by rw [hG]
  have g2 : G.2.2.2 0 = b := by rw [hG]
  have hK : en_K G s := by
    refine ⟨⟨fun ci q hq => ?_, fun t q hq => ?_⟩, va_AO.of (hts _ en_oL), va_AO.of (hts _ en_oB), fun q hq => ?_, fun i q hq => ?_, ⟨adV, fun k hk => ?_⟩⟩
    · obtain ⟨C, T, N⟩ := q
      rw [hG]
      exact hdq ci C T N hq
    · have ht : t < 5 := (List.getElem?_eq_some_iff.mp hq).1
      rw [en_tysA ht] at hq
      cases hq
      rw [hG]
      exact hcA t ht
    · obtain ⟨k, hk⟩ := List.getElem?_of_mem hq
      have hk10 : k < 10 := by have := (List.getElem?_eq_some_iff.mp hk).1; rw [en_nlen] at this; exact this
      have h1 := en_nst k hk10
      rw [hk] at h1
      exact va_Nw.of rfl (hts _ (List.mem_append_right _ (List.mem_of_getElem? h1)))
    · have h1 := htA i q hq
      rw [hG]
      exact h1
    · obtain ⟨z1, z2, z3, z4⟩ := htB k hk
      have hA : ∀ a : Nat, a < s.heap.size → ¬ s.heap.size ≤ a := fun a h => Nat.not_le.mpr h
      have gg : ∀ w : Jvm.Cond, en_inG w = true → w.before #[Value.ref b] s = true := fun w h => flat_of_before _ hgv _ (en_inG_of h)
      have hx3 := en_sx3
      rw [Bool.and_eq_true] at hx3
      have hZ1 := va_Zof (C := "java/lang/String") (n := "COMPACT_STRINGS") (d := "Z") (v := .int 1) (A := fun q => s.heap.size ≤ q) (hts _ st_ly1) (hts _ (List.mem_filter.mp si_str).1) (va_eqi (gg _ hx3.1)) hA
      have hZ2 := va_Zqof (C := "jdk/internal/util/Preconditions") (n := "SIOOBE_FORMATTER") (d := "Ljava/util/function/BiFunction;") (A := fun q => s.heap.size ≤ q) (hts _ st_ly2) (hts _ (List.mem_filter.mp si_pre).1) (gg _ hx3.2) hA
      rw [hG]
      exact ⟨hZ1, hZ2, z1, z2, z3, z4⟩
  have hF : en_Fr G (some ys) en_I0v room_1 p s m #[Value.ref b] meth c := by
    refine ⟨hx, hb, hml, hown, en_W0_hts hts, hK, Nat.le_of_eq g1, ?_, ⟨Nat.le_of_ble_eq_true rfl, Nat.le_of_ble_eq_true rfl⟩, fun h => absurd h (by decide)⟩
    intro zs hz
    cases hz
    rw [g1, g2]
    obtain ⟨scr, h1, h2, h3, h4, h5⟩ := hX
    exact ⟨⟨scr, h1, h2, h3, by rw [h4, hy.1], fun j hj => by rw [h5 j (by rw [← hy.1]; exact hj)]; show some (Value.int (xs j)) = some (Value.int (ys.getD j 0)); rw [hy.2 j (by rw [← hy.1]; exact hj)]⟩, hbl, hbl⟩
  have hl := lv_entry ([.ref b]) (n := 4) (Nat.le_of_ble_eq_true rfl)
  rw [lg_entry_eq]
  generalize (lg_sl ([.ref b]) ++ List.replicate (4 - (lg_sl ([.ref b])).length) Slot.unset).toArray = ls at hl ⊢
  have hl2 : lv_has ls 4 (([(0, Value.float 0)] : en_L).map (en_cq G)) := by
    have e1 : ([(0, Value.float 0)] : en_L).map (en_cq G) = [(0, Value.ref b)] := by
      show [(0, Value.ref (G.2.2.2 (0 : UInt32).toNat))] = [(0, Value.ref b)]
      rw [show (0 : UInt32).toNat = 0 from rfl, g2]
    rw [e1]
    exact hl
  refine en_go_sound (I := en_I0v) (n0 := 0) (k0 := 0) (d := d) hF (fun i as h w hw => en_run_mono hw) (fun i as h w hw => en_run_sound hB d F i as h w hw) hbs ⟨by show d + 9 ≤ 2048; omega, by show 64 * d + 576 ≤ 84000; omega⟩ ⟨by show _ ≤ 0 + 600000; have := hlim.1; dsimp only; omega, by show _ ≤ 0 + 7302249; have := hlim.2; dsimp only; omega⟩ ?_ f hrun hl2 ⟨fun k q h => by simp [en_cw] at h, by rw [g1]; rfl, ?_, rfl, rfl⟩
  · intro pc H locs cells slots ls' hrk hr2
    refine va_forget (fun q hq => by have := hr2.2.2.1.2.2 q hq; rw [← g1]; exact this) ?_
    refine W.widen (k := 600000) (n := 7302249) (by have := hr2.2.2.2.1; have := hlim.1; dsimp only at *; omega) (by have := hr2.2.2.2.2; have := hlim.2; dsimp only at *; omega) ?_
    exact lw_ret hx hb hr hlocks hrk.1
  · rw [g1]
    exact va_S.rf
