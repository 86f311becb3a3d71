/-! ===== calls and whole methods ===== -/
def en_rm (d : Nat) (h : en_H) (w : Option Value × en_H) : Room := { frames := d + 8, cells := w.2.1.length - h.1.length, slots := w.2.2 - h.2, locals := 64 * d + 512 }
theorem en_rm_1 {d : Nat} {h : en_H} {w : Option Value × en_H} : (en_rm d h w).frames + 1 = d + 9 := by
  unfold en_rm
  rfl
theorem en_rm_3 {d : Nat} {h : en_H} {w : Option Value × en_H} : (en_rm d h w).locals = 64 * d + 512 := by
  unfold en_rm
  rfl
theorem en_rm_2 {d ml : Nat} {h : en_H} {w : Option Value × en_H} (hml : ml ≤ 45) : 8 + (ml + 11) + (en_rm d h w).locals ≤ 64 * d + 576 := by
  rw [en_rm_3]
  omega
def en_Pc (G : en_G) (as : List Value) (h : en_H) : Array Value → State → Prop := va_Pc (as.map (en_cv G)) (fun U => va_P G.2.1 en_cl (en_cw G h.1) U.heap ∧ U.heap.size = G.1 + h.1.length ∧ en_K G U)
def en_Qc (G : en_G) (w : Option Value × en_H) : Array Value → State → Outcome → State → Prop := fun _ st o t => o = .returned (w.1.map (en_cv G)) ∧ va_P G.2.1 en_cl (en_cw G w.2.1) t.heap ∧ t.heap.size = G.1 + w.2.1.length ∧ va_F (fun q => G.1 ≤ q) st t
/-- what a program decides of the methods' own words -/
def en_okIS : Bool := (en_IS.zip en_ps).all (fun q => en_okJ q.1 q.2 || decide (q.1.1.name = "law")) && decide (en_IS.length = en_ps.length)
theorem en_codeW {J : en_I} {q : Nat × Nat × Nat × Nat} (h : en_okJ J q = true) : (Jvm.Cond.code J.1 J.2.1 J.2.2.1 J.2.2.2.1) ∈ en_W0 := by
  simp only [en_okJ, Bool.and_eq_true, decide_eq_true_eq] at h
  exact en_in h.1.1.2 rfl
theorem en_goodIn {J : en_I} {q : Nat × Nat × Nat × Nat} (h : en_okJ J q = true) : GoodIn en_W0 (en_ws J) := by
  intro w hw
  have h1 : w ∈ en_W0 := by
    rcases List.mem_cons.mp hw with rfl | h1
    · exact en_codeW h
    · exact h1
  exact ⟨h1, good_of_word (List.mem_filter.mp h1).2⟩
/-- what is known of a callee -/
def en_Cal (G : en_G) (L : Launch) (d : Nat) (i : Nat) (as : List Value) (h : en_H) (w : Option Value × en_H) : Prop :=
  ∃ (J : en_I) (q : Nat × Nat × Nat × Nat), en_IS[i]? = some J ∧ en_okJ J q = true ∧ (J.2.2.2.2.2 = 1 ∨ en_rc J as h = true) ∧ Met L J.1 (en_ws J) (en_rm d h w) (en_Pc G as h) (en_Qc G w) (w.2.1.length - h.1.length) (w.2.2 - h.2) (fun q => G.1 ≤ q)
section EN4
variable {G : en_G} {xs : Option (List Int32)} {I : en_I} {R : Room} {p : Program} {L : Launch} {e : Env} {s : State} {m : MethodId} {args : Array Value} {below : List Frame} {meth : Method} {c : Code} {Q : State → Prop} {n0 k0 : Nat}
variable {pc : Nat} {l : en_L} {st : List Value} {h : en_H} {H : Heap} {locs : List Loc} {cells slots : Nat} {ls : Array Slot}
theorem en_blind (as : List Value) : FrameBlind (en_Pc G as h) := fun a U g mk q => ⟨q.1, q.2.1, q.2.2.1, en_K.calling g mk a q.2.2.2⟩
theorem en_call {op : en_Op} {d : Nat} (hcall : en_isc op.1) {q : List Value × List Value} {w : Option Value × en_H} (ha : op.2.2.1 < 900) (ok : en_okop I pc op = true) (hq : en_take op st = some q) (hc : en_Cal G L d op.2.2.1 q.1 h w) (hm : en_le h w.2) (F : en_Fr G xs I R p s m args meth c) (hR : d + 9 ≤ R.frames ∧ 64 * d + 576 ≤ R.locals) (hlim : w.2.1.length ≤ n0 + R.cells ∧ w.2.2 ≤ k0 + R.slots) (hl : lv_has ls I.2.2.1 (l.map (en_cq G))) (hr : en_Rl G s n0 k0 h H locs cells slots)
    (kk : en_KK G I R p L e s m args below meth c Q n0 k0 (l, w.1.toList ++ q.2, w.2) (pc + 3)) : W p L e R s m args below meth c H locs cells slots Q (F0 m pc ls (st.map (en_cv G))) := by
  obtain ⟨hx, hb, hml, hown, hts, hK, hB, hX, -, hnm⟩ := F
  obtain ⟨i, len, a, b, cc⟩ := op
  obtain ⟨J, jp, hJ, hj, hrc, hM⟩ := hc
  dsimp only at ha hJ hq
  simp only [en_okop, Bool.and_eq_true, decide_eq_true_eq] at ok
  obtain ⟨⟨hd, hlen⟩, ok⟩ := ok
  unfold en_take at hq
  dsimp only at hq
  split at hq
  · rename_i hbl
    cases hq
    have hst : st = (st.take b).reverse.reverse ++ st.drop b := by rw [List.reverse_reverse, List.take_append_drop]
    have hlenT : (st.take b).reverse.length = b := by rw [List.length_reverse, List.length_take]; omega
    generalize hAs : (st.take b).reverse = As at *
    generalize hRe : st.drop b = rest at *
    have hcs8 : ((rest.map (en_cv G)).map fun v => v.category).sum ≤ 8 := by rw [en_csm]; exact hbl.2
    have hgi := en_goodIn hj
    have hcd := en_codeW hj
    have hjj := hj
    simp only [en_okJ, Bool.and_eq_true, decide_eq_true_eq] at hjj
    obtain ⟨⟨⟨⟨⟨j1, j2⟩, j3⟩, j4⟩, j5⟩, j6⟩ := hjj
    have hini : (Jvm.Cond.initialized J.1.cls).before args s = true := hts _ (en_in j5 rfl)
    have hS : CallFix p m c I.2.1 I.2.2.1 s args en_W0 I.1.cls := ⟨hx, hb, hml, hown, hts⟩
    have hc1 := hr.2.2.2.1
    have hc2 := hr.2.2.2.2
    have hm1 := hm.1
    have hm2 := hm.2
    have hf : cells + (w.2.1.length - h.1.length) ≤ R.cells ∧ slots + (w.2.2 - h.2) ≤ R.slots := ⟨by have := hlim.1; omega, by have := hlim.2; omega⟩
    have hPcU : ∀ U : State, U.heap = H → s.WarmedH U.vm → en_Pc G As h (As.map (en_cv G)).toArray U := fun U hU hW => ⟨rfl, by rw [hU]; exact hr.1, by rw [hU]; exact hr.2.1, en_K.warm hW (by rw [hU]; exact hr.2.2.1) hK⟩
    have fin : ∀ av : Array Value, va_Run p L e R s m args below meth c H locs cells slots (w.2.1.length - h.1.length) (w.2.2 - h.2) (F0 m pc ls (st.map (en_cv G))) (rest.map (en_cv G)) (en_Qc G w av) (fun q => G.1 ≤ q) → W p L e R s m args below meth c H locs cells slots Q (F0 m pc ls (st.map (en_cv G))) := by
      intro av hrun T hT X
      obtain ⟨v, st0, t, T', LL, h0, X', hLL, e1, e2, ⟨hv, hP1, hz1, hF1⟩, stp⟩ := hrun T hT X
      have hv' : v = w.1.map (en_cv G) := Outcome.returned.inj hv
      subst hv'
      have hRl : en_Rl G s n0 k0 w.2 T'.heap (locs ++ LL) (cells + (w.2.1.length - h.1.length)) (slots + (w.2.2 - h.2)) := by
        refine ⟨by rw [e1]; exact hP1, by rw [e1]; exact hz1, ⟨?_, fun q g1 g2 => ?_, fun q hq => ?_⟩, by omega, by omega⟩
        · rw [e1]
          exact Nat.le_trans hr.2.2.1.1 (by have := hF1.1; rw [h0] at this; exact this)
        · rw [e1, hF1.2 q (by rw [h0]; exact Nat.lt_of_lt_of_le g1 hr.2.2.1.1) g2, h0]
          exact hr.2.2.1.2.1 q g1 g2
        · rcases List.mem_append.mp hq with g | g
          · exact hr.2.2.1.2.2 q g
          · exact hLL q g
      obtain ⟨t2, a1, b1⟩ := kk T'.heap _ _ _ ls hl hRl T' rfl X'
      refine ⟨t2, stp t2 ?_, b1⟩
      have e3 : (w.1.toList ++ rest).map (en_cv G) = (w.1.map (en_cv G)).toList ++ rest.map (en_cv G) := by
        rw [List.map_append]
        cases w.1 <;> rfl
      dsimp only at a1
      rw [e3] at a1
      exact a1
    have hstk : st.map (en_cv G) = (As.map (en_cv G)).reverse ++ rest.map (en_cv G) := by rw [hst, List.map_append, List.map_reverse]
    have hroom : ∀ ml : Nat, ml ≤ 45 → (en_rm d h w).frames + 1 ≤ R.frames ∧ 8 + (ml + 11) + (en_rm d h w).locals ≤ R.locals := fun ml hml' => ⟨Nat.le_trans (Nat.le_of_eq en_rm_1) hR.1, Nat.le_trans (en_rm_2 hml') hR.2⟩
    have okc : ∀ (n k : Nat), en_okc I n a b cc k = true → ((parseMethodDescriptor J.1.desc).map (fun d => d.parameters.length) = some (b - k) ∧ k ≤ b ∧ J.2.2.1 ≤ 45 ∧ J.2.2.2.2.2 + k = 1) ∧ ((Jvm.Cond.methodLink I.1.cls n J.1).before args s = true ∨ (Jvm.Cond.methodLinkNest I.1.cls n J.1 "LeftHands").before args s = true) := by
      intro n k hk
      simp only [en_okc, hJ, Bool.and_eq_true, decide_eq_true_eq] at hk
      obtain ⟨⟨⟨⟨k1, k2⟩, k3⟩, k4⟩, k5⟩ := hk
      refine ⟨⟨k1, k2, k3, k4⟩, ?_⟩
      split at k5
      · exact Or.inl (hts _ (en_in (of_decide_eq_true k5) rfl))
      · have hn := hK.2.2.2.1 _ (List.mem_of_getElem? (of_decide_eq_true k5))
        exact Or.inr (va_Nw.use rfl hn)
    have recv : J.2.2.2.2.2 = 0 → ∃ (pl : Nat) (fs : List Value) (As' : List Value), As = .ref pl :: As' ∧ h.1[pl]? = some (.inr (J.2.2.2.2.1, fs)) := by
      intro h0
      rcases hrc with h1 | h1
      · omega
      · cases As with
        | nil => cases h1
        | cons v As' =>
          cases v with
          | ref pl =>
            cases hp : h.1[pl]? with
            | none => simp [en_rc, hp] at h1
            | some t =>
              cases t with
              | inl t => simp [en_rc, hp] at h1
              | inr t =>
                obtain ⟨ci, fs⟩ := t
                have h2 : Nat.beq ci J.2.2.2.2.1 = true := by simpa only [en_rc, hp] using h1
                have := Nat.eq_of_beq_eq_true h2
                subst this
                exact ⟨pl, fs, As', rfl, hp⟩
          | _ => cases h1
    cases i with
    | invokestatic n =>
      simp only [en_lnok] at hlen
      replace hlen := of_decide_eq_true hlen
      simp only [en_len] at hlen
      subst hlen
      have ok2 : en_okc I n a b cc 0 = true := by
        have := ok
        simp only [en_okw, if_pos ha] at this
        exact this
      obtain ⟨⟨k1, k2, k3, k4⟩, k5⟩ := okc n 0 ok2
      have hstat : (Jvm.Cond.static J.1).before args s = true := by
        rw [if_pos (by omega)] at j6
        exact hts _ (en_in (of_decide_eq_true j6) rfl)
      rcases k5 with k5 | k5
      · exact fin _ (va_runS (As := As.map (en_cv G)) (rest := rest.map (en_cv G)) hS hM ⟨callB_of b hts hgi rfl rfl rfl hini k5 ⟨j2, j3, k1⟩ (hroom _ k3), hstat⟩ ⟨en_blind As, hPcU⟩ rfl (by rw [List.length_map]; exact hlenT) hl.1 hstk (lv_room hcs8) hd hf)
      · exact fin _ (va_runSN (As := As.map (en_cv G)) (rest := rest.map (en_cv G)) hS hM ⟨va_cnB b hts hgi rfl rfl rfl (va_Nw.of rfl k5) hini ⟨j2, j3, k1⟩ (hroom _ k3), hstat, trivial⟩ ⟨en_blind As, hPcU⟩ rfl (by rw [List.length_map]; exact hlenT) hl.1 hstk (lv_room hcs8) hd hf)
    | invokevirtual n =>
      simp only [en_lnok] at hlen
      replace hlen := of_decide_eq_true hlen
      simp only [en_len] at hlen
      subst hlen
      have ok2 : en_okc I n a b cc 1 = true := by
        have : (decide (a < 900) && en_okc I n a b cc 1 && decide ((en_IS[a]?).map (fun J => decide (J.1.name = "<init>")) = some false)) = true := by have q := ok; simp only [en_okw, if_pos ha] at q; exact q
        simp only [Bool.and_eq_true] at this
        exact this.1.2
      have ok3 : ¬ J.1.name = "<init>" := by
        have : (decide (a < 900) && en_okc I n a b cc 1 && decide ((en_IS[a]?).map (fun J => decide (J.1.name = "<init>")) = some false)) = true := by have q := ok; simp only [en_okw, if_pos ha] at q; exact q
        simp only [Bool.and_eq_true, decide_eq_true_eq, hJ] at this
        exact of_decide_eq_false (Option.some.inj this.2)
      obtain ⟨⟨k1, k2, k3, k4⟩, k5⟩ := okc n 1 ok2
      rw [if_neg (by omega)] at j6
      simp only [Bool.and_eq_true, decide_eq_true_eq] at j6
      obtain ⟨⟨⟨i1, i2⟩, i3⟩, i4⟩ := j6
      obtain ⟨pl, fs, As', rfl, hp⟩ := recv i1
      have hinst : (Jvm.Cond.instanceMethod J.1).before args s = true := hts _ (en_in i2 rfl)
      have hrv : ∃ cellB : Cell, H[G.1 + pl]? = some cellB ∧ cellB.vm.isStatics = false ∧ s.vm.findClass J.1.cls = some cellB.cls := by
        cases hcl : en_cl[J.2.2.2.2.1]? with
        | none => rw [hcl] at i3; cases i3
        | some rr =>
          rw [hcl] at i3
          have e4 : rr.1 = J.1.cls := Option.some.inj i3
          have h7 := va_recv hK.1 hr.1 (ci := J.2.2.2.2.1) (q0 := pl) hcl (en_cw_at hp)
          rw [e4] at h7
          exact h7
      · rw [if_neg ok3] at i4
        have hsel : (Jvm.Cond.selects J.1.cls J.1 J.1).before args s = true := hts _ (List.mem_filter.mpr ⟨List.mem_of_getElem? (of_decide_eq_true i4), rfl⟩)
        have hstk2 : st.map (en_cv G) = (As'.map (en_cv G)).reverse ++ Value.ref (G.1 + pl) :: rest.map (en_cv G) := by
          rw [hstk, List.map_cons, List.reverse_cons, List.append_assoc]
          rfl
        have hln : (As'.map (en_cv G)).length = b - 1 := by
          rw [List.length_map]
          have := hlenT
          rw [List.length_cons] at this
          omega
        rcases k5 with k5 | k5
        · exact fin _ (va_runV (As := As'.map (en_cv G)) (rest := rest.map (en_cv G)) (C := J.1.cls) (b := G.1 + pl) hS hM ⟨callB_of (b - 1) hts hgi rfl rfl rfl hini k5 ⟨j2, j3, k1⟩ (hroom _ k3), hinst, hsel⟩ ⟨en_blind _, hrv, hPcU⟩ rfl hln hl.1 hstk2 (lv_room hcs8) hd hf)
        · exact fin _ (va_runVN (As := As'.map (en_cv G)) (rest := rest.map (en_cv G)) (C := J.1.cls) (b := G.1 + pl) hS hM ⟨va_cnB (b - 1) hts hgi rfl rfl rfl (va_Nw.of rfl k5) hini ⟨j2, j3, k1⟩ (hroom _ k3), hinst, hsel⟩ ⟨en_blind _, hrv, hPcU⟩ rfl hln hl.1 hstk2 (lv_room hcs8) hd hf)
    | invokespecial n =>
      simp only [en_lnok] at hlen
      replace hlen := of_decide_eq_true hlen
      simp only [en_len] at hlen
      subst hlen
      have ok2 : en_okc I n a b cc 1 = true ∧ (J.1.name, J.2.2.2.1) = ("<init>", (none : Option FieldType)) := by
        have := ok
        simp only [en_okw, if_pos ha, Bool.and_eq_true, decide_eq_true_eq, hJ] at this
        exact ⟨this.1, Option.some.inj this.2⟩
      obtain ⟨ok2, hnm2⟩ := ok2
      have hnm3 : J.1.name = "<init>" := congrArg Prod.fst hnm2
      have hrt : J.2.2.2.1 = none := congrArg Prod.snd hnm2
      obtain ⟨⟨k1, k2, k3, k4⟩, k5⟩ := okc n 1 ok2
      rw [if_neg (by omega)] at j6
      simp only [Bool.and_eq_true, decide_eq_true_eq] at j6
      obtain ⟨⟨⟨i1, i2⟩, i3⟩, i4⟩ := j6
      obtain ⟨pl, fs, As', rfl, hp⟩ := recv i1
      have hinst : (Jvm.Cond.instanceMethod J.1).before args s = true := hts _ (en_in i2 rfl)
      have hstk2 : st.map (en_cv G) = (As'.map (en_cv G)).reverse ++ Value.ref (G.1 + pl) :: rest.map (en_cv G) := by
        rw [hstk, List.map_cons, List.reverse_cons, List.append_assoc]
        rfl
      have hln : (As'.map (en_cv G)).length = b - 1 := by
        rw [List.length_map]
        have := hlenT
        rw [List.length_cons] at this
        omega
      have hwsn : en_ws J = Jvm.Cond.code J.1 J.2.1 J.2.2.1 none :: en_W0 := by
        unfold en_ws
        rw [hrt]
      rcases k5 with k5 | k5
      · exact fin _ (va_runI (As := As'.map (en_cv G)) (rest := rest.map (en_cv G)) (b := G.1 + pl) hS hM ⟨callB_of (b - 1) hts hgi hwsn rfl rfl hini k5 ⟨j2, j3, k1⟩ (hroom _ k3), hnm3, hinst⟩ ⟨en_blind _, hPcU⟩ rfl hln hl.1 hstk2 (lv_room hcs8) hd hf)
      · exact fin _ (va_runIN (As := As'.map (en_cv G)) (rest := rest.map (en_cv G)) (b := G.1 + pl) hS hM ⟨va_cnB (b - 1) hts hgi hwsn rfl rfl (va_Nw.of rfl k5) hini ⟨j2, j3, k1⟩ (hroom _ k3), hnm3, hinst⟩ ⟨en_blind _, hPcU⟩ rfl hln hl.1 hstk2 (lv_room hcs8) hd hf)
    | _ => exact (hcall).elim
  · cases hq
theorem en_lk_mem {pc : Nat} : ∀ {bs : en_Bs} {ops : List en_Op}, en_lk pc bs = some ops → (pc, ops) ∈ bs
  | [], ops, h => by cases h
  | q :: r, ops, h => by
    unfold en_lk at h
    by_cases hq : Nat.beq q.1 pc = true
    · rw [hq] at h
      cases h
      have e : q.1 = pc := Nat.eq_of_beq_eq_true hq
      rw [← e]
      exact List.mem_cons_self
    · have hq' : Nat.beq q.1 pc = false := Bool.eq_false_iff.mpr hq
      rw [hq'] at h
      exact List.mem_cons_of_mem _ (en_lk_mem h)
theorem en_go_sound {IS : List en_I} {BS : List en_Bs} {cf : Nat → List Value → en_H → Option (Option Value × en_H)} {bs : en_Bs} {d : Nat} {w : Option Value × en_H} (F : en_Fr G xs I R p s m args meth c) (hmo : ∀ i as h w, cf i as h = some w → en_le h w.2) (hcf : ∀ i as h w, cf i as h = some w → en_Cal G L d i as h w) (hok : en_okB I bs = true) (hR : d + 9 ≤ R.frames ∧ 64 * d + 576 ≤ R.locals) (hlim : w.2.1.length ≤ n0 + R.cells ∧ w.2.2 ≤ k0 + R.slots)
    (kret : ∀ (pc : Nat) (H : Heap) (locs : List Loc) (cells slots : Nat) (ls : Array Slot), en_rok I pc w.1 → en_Rl G s n0 k0 w.2 H locs cells slots → W p L e R s m args below meth c H locs cells slots Q (F0 m pc ls (w.1.toList.map (en_cv G)))) : ∀ (f : Nat) {pc : Nat} {l : en_L} {st : List Value} {h : en_H} {H : Heap} {locs : List Loc} {cells slots : Nat} {ls : Array Slot}, en_go IS BS cf xs I.2.2.2.1 bs f (pc, l, st, h) = some w → lv_has ls I.2.2.1 (l.map (en_cq G)) → en_Rl G s n0 k0 h H locs cells slots → W p L e R s m args below meth c H locs cells slots Q (F0 m pc ls (st.map (en_cv G)))
  | 0, pc, l, st, h, H, locs, cells, slots, ls, hs, hl, hr => by cases hs
  | f + 1, pc, l, st, h, H, locs, cells, slots, ls, hs, hl, hr => by
    unfold en_go at hs
    split at hs
    · cases hs
    · rename_i ops hops
      have hokb : en_okb I pc ops = true := List.all_eq_true.mp hok _ (en_lk_mem hops)
      split at hs
      · cases hs
      · rename_i c' hb
        have h1 := en_go_mono hmo hs
        refine en_rb_sound F (x := .inl c') ⟨Nat.le_trans h1.1 hlim.1, Nat.le_trans h1.2 hlim.2⟩ ?_ ops hokb hb hl hr
        intro H' locs' cells' slots' ls' hl' hr'
        exact en_go_sound F hmo hcf hok hR hlim kret f hs hl' hr'
      · rename_i op c' hb
        split at hs
        · cases hs
        · rename_i q hq
          split at hs
          · cases hs
          · rename_i w' hw
            have h2 := hmo _ _ _ _ hw
            have h3 := en_go_mono hmo hs
            have h4 : en_le c'.2.2.2 w.2 := h2.tr h3
            refine en_rb_sound F (x := .inr (.inl (op, c'))) ⟨Nat.le_trans h4.1 hlim.1, Nat.le_trans h4.2 hlim.2⟩ ?_ ops hokb hb hl hr
            intro hi ha ok' H' locs' cells' slots' ls' hl' hr'
            refine en_call hi ha ok' hq (hcf _ _ _ _ hw) h2 F hR ⟨Nat.le_trans h3.1 hlim.1, Nat.le_trans h3.2 hlim.2⟩ hl' hr' ?_
            intro H2 locs2 cells2 slots2 ls2 hl2 hr2
            exact en_go_sound F hmo hcf hok hR hlim kret f hs hl2 hr2
      · rename_i w' hb
        cases hs
        refine en_rb_sound F (x := .inr (.inr w)) hlim ?_ ops hokb hb hl hr
        intro pc' H' locs' cells' slots' ls' hk' hr'
        exact kret pc' H' locs' cells' slots' ls' hk' hr'
end EN4
theorem en_args_map (G : en_G) : ∀ (as : List Value) (i : Nat), lv_args i (as.map (en_cv G)) = (lv_args i as).map (en_cq G)
  | [], i => rfl
  | v :: r, i => by
    show (i, en_cv G v) :: lv_args (if (en_cv G v).category = 2 then i + 2 else i + 1) (r.map (en_cv G)) = (i, en_cv G v) :: (lv_args (if v.category = 2 then i + 2 else i + 1) r).map (en_cq G)
    rw [en_cat, en_args_map G r]
theorem en_sl_map (G : en_G) : ∀ (as : List Value), (lg_sl (as.map (en_cv G))).length = (lg_sl as).length
  | [] => rfl
  | v :: r => by
    have ih := en_sl_map G r
    unfold lg_sl at ih ⊢
    rw [List.map_cons, List.flatMap_cons, List.flatMap_cons, List.length_append, List.length_append, ih, en_cat]
    congr 1
    split <;> rfl
/-- what a program decides of all methods -/
def en_HB (BS : List en_Bs) : Prop := ∀ (i : Nat) (J : en_I) (bs : en_Bs), en_IS[i]? = some J → BS[i]? = some bs → bs ≠ [] → (∃ q, en_okJ J q = true) ∧ en_okB J bs = true
theorem en_go_nil {IS : List en_I} {BS : List en_Bs} {cf : Nat → List Value → en_H → Option (Option Value × en_H)} {xs : Option (List Int32)} {ret : Option FieldType} {f : Nat} {c : en_C} : en_go IS BS cf xs ret [] f c = none := by
  cases f <;> rfl
theorem en_run_sound {G : en_G} {L : Launch} {BS : List en_Bs} (hB : en_HB BS) : ∀ (d F i : Nat) (as : List Value) (h : en_H) (w : Option Value × en_H), en_run en_IS BS d F i as h = some w → en_Cal G L d i as h w
  | 0, F, i, as, h, w, hs => by cases hs
  | d + 1, F, i, as, h, w, hs => by
    have hmo := en_run_mono hs
    unfold en_run at hs
    split at hs
    · rename_i J bs hJ hbs
      split at hs
      · rename_i hc
        have hne : bs ≠ [] := by
          intro e
          rw [e, en_go_nil] at hs
          cases hs
        obtain ⟨⟨q, hj⟩, hok⟩ := hB i J bs hJ hbs hne
        refine ⟨J, q, hJ, hj, hc.2, ?_⟩
        have hjj := hj
        simp only [en_okJ, Bool.and_eq_true, decide_eq_true_eq] at hjj
        refine Met.ofW (cc := J.2.1) (maxL := J.2.2.1) (ret := J.2.2.2.1) hjj.1.1.1.1.1 rfl ?_
        intro p e s m args below meth c s₁ B hml hv
        obtain ⟨rfl, hP, hz, hK⟩ := hv
        have hx := B.exec
        have hb := B.bytes
        have hret := B.returns
        have hts0 := atoms_spec (ws := en_ws J) B.pre
        have hts : ∀ w ∈ en_W0, w.before ((as.map (en_cv G)).toArray) s = true := fun w hw => hts0 w (List.mem_cons_of_mem _ hw)
        have hown : s.vm.findClass J.1.cls = some m.cls := findClass_of_methodNamed B.named
        have hlocks := B.notSynchronized
        have hin : meth.name = J.1.name := (name_of_methodNamed B.named B.method).1
        have hl := lv_entry (as.map (en_cv G)) (n := J.2.2.1) (by rw [en_sl_map]; exact hc.1)
        rw [lg_entry_eq]
        generalize (lg_sl (as.map (en_cv G)) ++ List.replicate (J.2.2.1 - (lg_sl (as.map (en_cv G))).length) Slot.unset).toArray = ls at hl ⊢
        rw [en_args_map] at hl
        have hF : en_Fr G none J (headSpec (en_ws J) (en_rm (d + 1) h w)).room p s m (as.map (en_cv G)).toArray meth c := by
          refine ⟨hx, hb, hml, hown, hts, hK, by omega, ?_, ⟨?_, ?_⟩, fun h => hin.trans h⟩
          · intro ys hy
            cases hy
          · show 8 ≤ d + 1 + 8
            omega
          · show 512 ≤ 64 * (d + 1) + 512
            omega
        refine en_go_sound (n0 := h.1.length) (k0 := h.2) hF (fun i as h w hw => en_run_mono hw) (fun i as h w hw => en_run_sound hB d F i as h w hw) hok ⟨Nat.le_refl _, by show 64 * d + 576 ≤ 64 * (d + 1) + 512; omega⟩ ⟨by show _ ≤ h.1.length + (w.2.1.length - h.1.length); have := hmo.1; omega, by show _ ≤ h.2 + (w.2.2 - h.2); have := hmo.2; omega⟩ ?_ F hs hl ⟨hP, hz, va_S.rf, by omega, by omega⟩
        intro pc H locs cells slots ls' hrk hr
        have e1 : cells = w.2.1.length - h.1.length := by have := hr.2.2.2.1; omega
        have e2 : slots = w.2.2 - h.2 := by have := hr.2.2.2.2; omega
        subst e1
        subst e2
        have hq : ∀ (v : Option Value), v = w.1 → ∀ t : State, t.heap = H → s.WarmedH t.vm → en_Qc G w (as.map (en_cv G)).toArray s (.returned (v.map (en_cv G))) t := fun v hv t ht hW => ⟨by rw [hv], by rw [ht]; exact hr.1, by rw [ht]; exact hr.2.1, hr.2.2.1.F ht⟩
        obtain ⟨wr, wh⟩ := w
        cases wr with
        | none => exact W.vret hx hb (hret.trans hrk.2) (hq none rfl) hr.2.2.1.2.2 hrk.1
        | some v =>
          cases v with
          | int v =>
            rcases hrk.2 with h1 | ⟨h1, h2⟩
            · exact W.zret (v := v) hx hb (hret.trans h1) rfl (hq (some (.int v)) rfl) hr.2.2.1.2.2 hrk.1
            · exact W.zret (v := v) hx hb (hret.trans h1) (en_bool h2) (hq (some (.int v)) rfl) hr.2.2.1.2.2 hrk.1
          | long v => exact W.lret (v := v) hx hb (hret.trans hrk.2) (hq (some (.long v)) rfl) hr.2.2.1.2.2 hrk.1
          | null =>
            obtain ⟨n, hn⟩ := hrk.2.1
            exact W.aret (v := .null) hx hb (hret.trans hn) (Or.inl ⟨n, rfl⟩) (Or.inl rfl) (hq (some .null) rfl) hr.2.2.1.2.2 hrk.1
          | ref v =>
            obtain ⟨n, hn⟩ := hrk.2.1
            exact W.aret (v := .ref (G.1 + v)) hx hb (hret.trans hn) (Or.inl ⟨n, rfl⟩) (Or.inr ⟨_, rfl⟩) (hq (some (.ref v)) rfl) hr.2.2.1.2.2 hrk.1
          | float v =>
            obtain ⟨n, hn⟩ := hrk.2.1
            exact W.aret (v := .ref (G.2.2.2 v.toNat)) hx hb (hret.trans hn) (Or.inl ⟨n, rfl⟩) (Or.inr ⟨_, rfl⟩) (hq (some (.float v)) rfl) hr.2.2.1.2.2 hrk.1
          | double v => rcases hrk.2.2 with h | ⟨a, h⟩ | ⟨a, h⟩ <;> cases h
          | retAddr v => rcases hrk.2.2 with h | ⟨a, h⟩ | ⟨a, h⟩ <;> cases h
      · cases hs
    · cases hs
