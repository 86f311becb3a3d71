/-! ===== calls and whole methods ===== -/
def en_rm (d : Nat) (h : en_H) (w : Option Value × en_H) : Room := { frames := d, cells := w.2.1.length - h.1.length, slots := w.2.2 - h.2, locals := 64 * d }
def en_Pc (G : en_G) (as : List Value) (h : en_H) : Array Value → State → Prop := va_Pc (as.map (en_cv G)) (fun U => va_P G.2.1 en_cl (en_cw G h.1) U.heap ∧ U.heap.size = G.1 + h.1.length ∧ en_K G U)
def en_Qc (G : en_G) (w : Option Value × en_H) : Array Value → State → Outcome → State → Prop := fun _ st o t => o = .returned (w.1.map (en_cv G)) ∧ va_P G.2.1 en_cl (en_cw G w.2.1) t.heap ∧ t.heap.size = G.1 + w.2.1.length ∧ va_F (fun q => G.1 ≤ q) st t
/-- what a program decides of the methods' own words -/
def en_okIS : Bool := (en_IS.zip en_ps).all (fun q => en_okJ q.1 q.2 || decide (q.1.1.name = "law")) && decide (en_IS.length = en_ps.length)
theorem en_codeW {J : en_I} {q : Nat × Nat × Nat × Nat} (h : en_okJ J q = true) : (Jvm.Cond.code J.1 J.2.1 J.2.2.1 J.2.2.2.1) ∈ en_W0 := by
  simp only [en_okJ, Bool.and_eq_true, decide_eq_true_eq] at h
  exact en_in h.1.1.2 rfl
theorem en_goodIn {J : en_I} {q : Nat × Nat × Nat × Nat} (h : en_okJ J q = true) : GoodIn en_W0 (en_ws J) := by
  intro w hw
  have h1 : w ∈ en_W0 := by
    rcases List.mem_cons.mp hw with rfl | h1
    · exact en_codeW h
    · exact h1
  exact ⟨h1, good_of_word (List.mem_filter.mp h1).2⟩
/-- what is known of a callee -/
def en_Cal (G : en_G) (L : Launch) (d : Nat) (i : Nat) (as : List Value) (h : en_H) (w : Option Value × en_H) : Prop :=
  ∃ (J : en_I) (q : Nat × Nat × Nat × Nat), en_IS[i]? = some J ∧ en_okJ J q = true ∧ (J.2.2.2.2.2 = 1 ∨ en_rc J as h = true) ∧ Met L J.1 (en_ws J) (en_rm d h w) (en_Pc G as h) (en_Qc G w) (w.2.1.length - h.1.length) (w.2.2 - h.2) (fun q => G.1 ≤ q)
section EN4
variable {G : en_G} {xs : Option (List Int32)} {I : en_I} {R : Room} {p : Program} {L : Launch} {e : Env} {s : State} {m : MethodId} {args : Array Value} {below : List Frame} {meth : Method} {c : Code} {Q : State → Prop} {n0 k0 : Nat}
variable {pc : Nat} {l : en_L} {st : List Value} {h : en_H} {H : Heap} {locs : List Loc} {cells slots : Nat} {ls : Array Slot}
theorem en_blind (as : List Value) : FrameBlind (en_Pc G as h) := fun a U g mk q => ⟨q.1, q.2.1, q.2.2.1, en_K.calling g mk a q.2.2.2⟩
theorem en_call {op : en_Op} {d : Nat} (hcall : (match op.1 with | .invokevirtual _ => True | .invokestatic _ => True | .invokespecial _ => True | _ => False)) {q : List Value × List Value} {w : Option Value × en_H} (ha : op.2.2.1 < 900) (ok : en_okop I pc op = true) (hq : en_take op st = some q) (hc : en_Cal G L d op.2.2.1 q.1 h w) (hm : en_le h w.2) (F : en_Fr G xs I R p s m args meth c) (hR : d + 1 ≤ R.frames ∧ 64 * (d + 1) ≤ R.locals) (hlim : w.2.1.length ≤ n0 + R.cells ∧ w.2.2 ≤ k0 + R.slots) (hl : lv_has ls I.2.2.1 (l.map (en_cq G))) (hr : en_Rl G s n0 k0 h H locs cells slots)
    (kk : en_KK G I R p L e s m args below meth c Q n0 k0 (l, w.1.toList ++ q.2, w.2) (pc + 3)) : W p L e R s m args below meth c H locs cells slots Q (F0 m pc ls (st.map (en_cv G))) := by
  obtain ⟨hx, hb, hml, hown, hts, hK, hB, hX, -, hnm⟩ := F
  obtain ⟨i, len, a, b, cc⟩ := op
  obtain ⟨J, jp, hJ, hj, hrc, hM⟩ := hc
  dsimp only at ha hJ hq
  simp only [en_okop, Bool.and_eq_true, decide_eq_true_eq] at ok
  obtain ⟨⟨hd, hlen⟩, ok⟩ := ok
  unfold en_take at hq
  dsimp only at hq
  split at hq
  · rename_i hbl
    cases hq
    have hst : st = (st.take b).reverse.reverse ++ st.drop b := by rw [List.reverse_reverse, List.take_append_drop]
    have hlenT : (st.take b).reverse.length = b := by rw [List.length_reverse, List.length_take]; omega
    generalize hAs : (st.take b).reverse = As at *
    generalize hRe : st.drop b = rest at *
    have hcs8 : ((rest.map (en_cv G)).map fun v => v.category).sum ≤ 8 := by rw [en_csm]; exact hbl.2
    have hgi := en_goodIn hj
    have hcd := en_codeW hj
    have hjj := hj
    simp only [en_okJ, Bool.and_eq_true, decide_eq_true_eq] at hjj
    obtain ⟨⟨⟨⟨⟨j1, j2⟩, j3⟩, j4⟩, j5⟩, j6⟩ := hjj
    have hini : (Jvm.Cond.initialized J.1.cls).before args s = true := hts _ (en_in j5 rfl)
    have hS : CallFix p m c I.2.1 I.2.2.1 s args en_W0 I.1.cls := ⟨hx, hb, hml, hown, hts⟩
    have hc1 := hr.2.2.2.1
    have hc2 := hr.2.2.2.2
    have hm1 := hm.1
    have hm2 := hm.2
    have hf : cells + (w.2.1.length - h.1.length) ≤ R.cells ∧ slots + (w.2.2 - h.2) ≤ R.slots := ⟨by have := hlim.1; omega, by have := hlim.2; omega⟩
    have hPcU : ∀ U : State, U.heap = H → s.WarmedH U.vm → en_Pc G As h (As.map (en_cv G)).toArray U := fun U hU hW => ⟨rfl, by rw [hU]; exact hr.1, by rw [hU]; exact hr.2.1, en_K.warm hW hK⟩
    have fin : ∀ av : Array Value, va_Run p L e R s m args below meth c H locs cells slots (w.2.1.length - h.1.length) (w.2.2 - h.2) (F0 m pc ls (st.map (en_cv G))) (rest.map (en_cv G)) (en_Qc G w av) (fun q => G.1 ≤ q) → W p L e R s m args below meth c H locs cells slots Q (F0 m pc ls (st.map (en_cv G))) := by
      intro av hrun T hT X
      obtain ⟨v, st0, t, T', LL, h0, X', hLL, e1, e2, ⟨hv, hP1, hz1, hF1⟩, stp⟩ := hrun T hT X
      have hv' : v = w.1.map (en_cv G) := Outcome.returned.inj hv
      subst hv'
      have hRl : en_Rl G s n0 k0 w.2 T'.heap (locs ++ LL) (cells + (w.2.1.length - h.1.length)) (slots + (w.2.2 - h.2)) := by
        refine ⟨by rw [e1]; exact hP1, by rw [e1]; exact hz1, ⟨?_, fun q g1 g2 => ?_, fun q hq => ?_⟩, by omega, by omega⟩
        · rw [e1]
          exact Nat.le_trans hr.2.2.1.1 (by have := hF1.1; rw [h0] at this; exact this)
        · rw [e1, hF1.2 q (by rw [h0]; exact Nat.lt_of_lt_of_le g1 hr.2.2.1.1) g2, h0]
          exact hr.2.2.1.2.1 q g1 g2
        · rcases List.mem_append.mp hq with g | g
          · exact hr.2.2.1.2.2 q g
          · exact hLL q g
      obtain ⟨t2, a1, b1⟩ := kk T'.heap _ _ _ ls hl hRl T' rfl X'
      refine ⟨t2, stp t2 ?_, b1⟩
      have e3 : (w.1.toList ++ rest).map (en_cv G) = (w.1.map (en_cv G)).toList ++ rest.map (en_cv G) := by
        rw [List.map_append]
        cases w.1 <;> rfl
      dsimp only at a1
      rw [e3] at a1
      exact a1
    have hstk : st.map (en_cv G) = (As.map (en_cv G)).reverse ++ rest.map (en_cv G) := by rw [hst, List.map_append, List.map_reverse]
    have hroom : ∀ ml : Nat, ml ≤ 45 → (en_rm d h w).frames + 1 ≤ R.frames ∧ 8 + (ml + 11) + (en_rm d h w).locals ≤ R.locals := fun ml hml' => ⟨hR.1, by have := hR.2; show 8 + (ml + 11) + 64 * d ≤ _; omega⟩
    have okc : ∀ (n k : Nat), en_okc I n a b cc k = true → ((parseMethodDescriptor J.1.desc).map (fun d => d.parameters.length) = some (b - k) ∧ k ≤ b ∧ J.2.2.1 ≤ 45 ∧ J.2.2.2.2.2 + k = 1) ∧ ((Jvm.Cond.methodLink I.1.cls n J.1).before args s = true ∨ (Jvm.Cond.methodLinkNest I.1.cls n J.1 "LeftHands").before args s = true) := by
      intro n k hk
      simp only [en_okc, hJ, Bool.and_eq_true, decide_eq_true_eq] at hk
      obtain ⟨⟨⟨⟨k1, k2⟩, k3⟩, k4⟩, k5⟩ := hk
      refine ⟨⟨k1, k2, k3, k4⟩, ?_⟩
      split at k5
      · exact Or.inl (hts _ (en_in (of_decide_eq_true k5) rfl))
      · have hn := hK.2.2.2.1 _ (List.mem_of_getElem? (of_decide_eq_true k5))
        exact Or.inr (va_Nw.use rfl hn)
    have recv : J.2.2.2.2.2 = 0 → ∃ (pl : Nat) (fs : List Value) (As' : List Value), As = .ref pl :: As' ∧ h.1[pl]? = some (.inr (J.2.2.2.2.1, fs)) := by
      intro h0
      rcases hrc with h1 | h1
      · omega
      · cases As with
        | nil => cases h1
        | cons v As' =>
          cases v with
          | ref pl =>
            cases hp : h.1[pl]? with
            | none => simp [en_rc, hp] at h1
            | some t =>
              cases t with
              | inl t => simp [en_rc, hp] at h1
              | inr t =>
                obtain ⟨ci, fs⟩ := t
                have h2 : Nat.beq ci J.2.2.2.2.1 = true := by simpa only [en_rc, hp] using h1
                have := Nat.eq_of_beq_eq_true h2
                subst this
                exact ⟨pl, fs, As', rfl, hp⟩
          | _ => cases h1
    cases i with
    | invokestatic n =>
      simp only [en_lnok] at hlen
      replace hlen := of_decide_eq_true hlen
      simp only [en_len] at hlen
      subst hlen
      have ok2 : en_okc I n a b cc 0 = true := by
        have := ok
        simp only [en_okw, if_pos ha] at this
        exact this
      obtain ⟨⟨k1, k2, k3, k4⟩, k5⟩ := okc n 0 ok2
      have hstat : (Jvm.Cond.static J.1).before args s = true := by
        rw [if_pos (by omega)] at j6
        exact hts _ (en_in (of_decide_eq_true j6) rfl)
      rcases k5 with k5 | k5
      · exact fin _ (va_runS (As := As.map (en_cv G)) (rest := rest.map (en_cv G)) hS hM ⟨callB_of b hts hgi rfl rfl rfl hini k5 ⟨j2, j3, k1⟩ (hroom _ k3), hstat⟩ ⟨en_blind As, hPcU⟩ rfl (by rw [List.length_map]; exact hlenT) hl.1 hstk (lv_room hcs8) hd hf)
      · exact fin _ (va_runSN (As := As.map (en_cv G)) (rest := rest.map (en_cv G)) hS hM ⟨va_cnB b hts hgi rfl rfl rfl (va_Nw.of rfl k5) hini ⟨j2, j3, k1⟩ (hroom _ k3), hstat, trivial⟩ ⟨en_blind As, hPcU⟩ rfl (by rw [List.length_map]; exact hlenT) hl.1 hstk (lv_room hcs8) hd hf)
    | invokevirtual n =>
      simp only [en_lnok] at hlen
      replace hlen := of_decide_eq_true hlen
      simp only [en_len] at hlen
      subst hlen
      have ok2 : en_okc I n a b cc 1 = true := by
        have : (decide (a < 900) && en_okc I n a b cc 1 && decide ((en_IS[a]?).map (fun J => decide (J.1.name = "<init>")) = some false)) = true := ok
        simp only [Bool.and_eq_true] at this
        exact this.1.2
      have ok3 : ¬ J.1.name = "<init>" := by
        have : (decide (a < 900) && en_okc I n a b cc 1 && decide ((en_IS[a]?).map (fun J => decide (J.1.name = "<init>")) = some false)) = true := ok
        simp only [Bool.and_eq_true, decide_eq_true_eq, hJ] at this
        exact of_decide_eq_false (Option.some.inj this.2)
      obtain ⟨⟨k1, k2, k3, k4⟩, k5⟩ := okc n 1 ok2
      rw [if_neg (by omega)] at j6
      simp only [Bool.and_eq_true, decide_eq_true_eq] at j6
      obtain ⟨⟨⟨i1, i2⟩, i3⟩, i4⟩ := j6
      obtain ⟨pl, fs, As', rfl, hp⟩ := recv i1
      have hinst : (Jvm.Cond.instanceMethod J.1).before args s = true := hts _ (en_in i2 rfl)
      have hrv : ∃ cellB : Cell, H[G.1 + pl]? = some cellB ∧ cellB.vm.isStatics = false ∧ s.vm.findClass J.1.cls = some cellB.cls := by
        cases hcl : en_cl[J.2.2.2.2.1]? with
        | none => rw [hcl] at i3; cases i3
        | some rr =>
          rw [hcl] at i3
          have e4 : rr.1 = J.1.cls := Option.some.inj i3
          have h7 := va_recv hK.1 hr.1 (ci := J.2.2.2.2.1) (q0 := pl) hcl (en_cw_at hp)
          rw [e4] at h7
          exact h7
      · rw [if_neg ok3] at i4
        have hsel : (Jvm.Cond.selects J.1.cls J.1 J.1).before args s = true := hts _ (List.mem_filter.mpr ⟨List.mem_of_getElem? (of_decide_eq_true i4), rfl⟩)
        have hstk2 : st.map (en_cv G) = (As'.map (en_cv G)).reverse ++ Value.ref (G.1 + pl) :: rest.map (en_cv G) := by
          rw [hstk, List.map_cons, List.reverse_cons, List.append_assoc]
          rfl
        have hln : (As'.map (en_cv G)).length = b - 1 := by
          rw [List.length_map]
          have := hlenT
          rw [List.length_cons] at this
          omega
        rcases k5 with k5 | k5
        · exact fin _ (va_runV (As := As'.map (en_cv G)) (rest := rest.map (en_cv G)) (C := J.1.cls) (b := G.1 + pl) hS hM ⟨callB_of (b - 1) hts hgi rfl rfl rfl hini k5 ⟨j2, j3, k1⟩ (hroom _ k3), hinst, hsel⟩ ⟨en_blind _, hrv, hPcU⟩ rfl hln hl.1 hstk2 (lv_room hcs8) hd hf)
        · exact fin _ (va_runVN (As := As'.map (en_cv G)) (rest := rest.map (en_cv G)) (C := J.1.cls) (b := G.1 + pl) hS hM ⟨va_cnB (b - 1) hts hgi rfl rfl rfl (va_Nw.of rfl k5) hini ⟨j2, j3, k1⟩ (hroom _ k3), hinst, hsel⟩ ⟨en_blind _, hrv, hPcU⟩ rfl hln hl.1 hstk2 (lv_room hcs8) hd hf)
    | invokespecial n =>
      simp only [en_lnok] at hlen
      replace hlen := of_decide_eq_true hlen
      simp only [en_len] at hlen
      subst hlen
      have ok2 : en_okc I n a b cc 1 = true ∧ (J.1.name, J.2.2.2.1) = ("<init>", (none : Option FieldType)) := by
        have := ok
        simp only [en_okw, if_pos ha, Bool.and_eq_true, decide_eq_true_eq, hJ] at this
        exact ⟨this.1, Option.some.inj this.2⟩
      obtain ⟨ok2, hnm2⟩ := ok2
      have hnm3 : J.1.name = "<init>" := congrArg Prod.fst hnm2
      have hrt : J.2.2.2.1 = none := congrArg Prod.snd hnm2
      obtain ⟨⟨k1, k2, k3, k4⟩, k5⟩ := okc n 1 ok2
      rw [if_neg (by omega)] at j6
      simp only [Bool.and_eq_true, decide_eq_true_eq] at j6
      obtain ⟨⟨⟨i1, i2⟩, i3⟩, i4⟩ := j6
      obtain ⟨pl, fs, As', rfl, hp⟩ := recv i1
      have hinst : (Jvm.Cond.instanceMethod J.1).before args s = true := hts _ (en_in i2 rfl)
      have hstk2 : st.map (en_cv G) = (As'.map (en_cv G)).reverse ++ Value.ref (G.1 + pl) :: rest.map (en_cv G) := by
        rw [hstk, List.map_cons, List.reverse_cons, List.append_assoc]
        rfl
      have hln : (As'.map (en_cv G)).length = b - 1 := by
        rw [List.length_map]
        have := hlenT
        rw [List.length_cons] at this
        omega
      have hwsn : en_ws J = Jvm.Cond.code J.1 J.2.1 J.2.2.1 none :: en_W0 := by
        unfold en_ws
        rw [hrt]
      rcases k5 with k5 | k5
      · exact fin _ (va_runI (As := As'.map (en_cv G)) (rest := rest.map (en_cv G)) (b := G.1 + pl) hS hM ⟨callB_of (b - 1) hts hgi hwsn rfl rfl hini k5 ⟨j2, j3, k1⟩ (hroom _ k3), hnm3, hinst⟩ ⟨en_blind _, hPcU⟩ rfl hln hl.1 hstk2 (lv_room hcs8) hd hf)
      · exact fin _ (va_runIN (As := As'.map (en_cv G)) (rest := rest.map (en_cv G)) (b := G.1 + pl) hS hM ⟨va_cnB (b - 1) hts hgi hwsn rfl rfl (va_Nw.of rfl k5) hini ⟨j2, j3, k1⟩ (hroom _ k3), hnm3, hinst⟩ ⟨en_blind _, hPcU⟩ rfl hln hl.1 hstk2 (lv_room hcs8) hd hf)
    | _ => exact (hcall).elim
  · cases hq
end EN4
