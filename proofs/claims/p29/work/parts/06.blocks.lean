/-! ===== control, blocks, methods ===== -/
def en_le (h h' : en_H) : Prop := h.1.length ≤ h'.1.length ∧ h.2 ≤ h'.2
theorem en_le.rf (h : en_H) : en_le h h := ⟨Nat.le_refl _, Nat.le_refl _⟩
theorem en_le.tr {a b c : en_H} (h1 : en_le a b) (h2 : en_le b c) : en_le a c := ⟨Nat.le_trans h1.1 h2.1, Nat.le_trans h1.2 h2.2⟩
theorem en_le_set (h : en_H) (p : Nat) (e : en_E) : en_le h (h.1.set p e, h.2) := ⟨Nat.le_of_eq (List.length_set ..).symm, Nat.le_refl _⟩
theorem en_le_app (h : en_H) (e : en_E) (n : Nat) : en_le h (h.1 ++ [e], h.2 + n) := ⟨by show _ ≤ (h.1 ++ [e]).length; rw [List.length_append]; exact Nat.le_add_right _ _, Nat.le_add_right _ _⟩
set_option maxHeartbeats 4000000 in
theorem en_nat_mono {a : Nat} {l : en_L} {st : List Value} {h : en_H} {q : en_L × List Value × en_H} (hs : en_nat a l st h = some q) : en_le h q.2.2 := by
  unfold en_nat en_acpy en_slen en_scha at hs
  repeat' split at hs
  all_goals first | (cases hs; exact en_le.rf _) | (cases hs; exact en_le_set _ _ _) | (cases hs; done)
set_option maxHeartbeats 4000000 in
theorem en_st_mono {xs : Option (List Int32)} {i : Instr} {a b : Nat} {l : en_L} {st : List Value} {h : en_H} {q : en_L × List Value × en_H} (hs : en_st xs i a b l st h = some q) : en_le h q.2.2 := by
  cases i
  all_goals simp only [en_st] at hs
  all_goals first | (cases hs; done) | (cases hs; exact en_le.rf _) | (cases hs; exact en_le_app _ _ _) | exact en_nat_mono hs | skip
  all_goals (try unfold en_ldi at hs); (try unfold en_ldl at hs); (try unfold en_lda at hs); (try unfold en_sti at hs); (try unfold en_stl at hs); (try unfold en_sta at hs); (try unfold en_i2 at hs); (try unfold en_i2d at hs); (try unfold en_l2 at hs); (try unfold en_l2d at hs); (try unfold en_gf at hs); (try unfold en_pf at hs); (try unfold en_ias at hs); (try unfold en_lal at hs); (try unfold en_aal at hs); (try unfold en_iast at hs); (try unfold en_last at hs); (try unfold en_aast at hs); (try unfold en_alen at hs); (try unfold en_newa at hs)
  all_goals (repeat' split at hs)
  all_goals first | (cases hs; done) | (cases hs; exact en_le.rf _) | (cases hs; exact en_le_set _ _ _) | (cases hs; exact en_le_app _ _ _) | skip
  all_goals (try unfold en_newa at hs)
  all_goals (repeat' split at hs)
  all_goals first | (cases hs; done) | (cases hs; exact en_le_app _ _ _)
def en_xh (x : en_X) : en_H := match x with
  | .inl c => c.2.2.2
  | .inr (.inl q) => q.2.2.2.2
  | .inr (.inr w) => w.2
set_option maxHeartbeats 4000000 in
theorem en_ctl_mono {ret : Option FieldType} {op : en_Op} {pc : Nat} {l : en_L} {st : List Value} {h : en_H} {x : en_X} (hs : en_ctl ret op pc l st h = some (some x)) : en_le h (en_xh x) := by
  unfold en_ctl at hs
  split at hs
  all_goals (repeat' split at hs)
  all_goals first | (cases hs; done) | (cases hs; exact en_le.rf _) | (simp only [Option.some.injEq] at hs; repeat' split at hs)
  all_goals first | (cases hs; done) | (cases hs; exact en_le.rf _)
theorem en_rb_mono {xs : Option (List Int32)} {ret : Option FieldType} : ∀ {ops : List en_Op} {c : en_C} {x : en_X}, en_rb xs ret ops c = some x → en_le c.2.2.2 (en_xh x)
  | [], c, x, hs => by
    cases hs
    exact en_le.rf _
  | op :: r, c, x, hs => by
    unfold en_rb at hs
    split at hs
    · rename_i y hy
      subst hs
      exact en_ctl_mono hy
    · split at hs
      · rename_i q hq
        exact (en_st_mono hq).tr (en_rb_mono hs)
      · cases hs
theorem en_go_mono {IS : List en_I} {BS : List en_Bs} {cf : Nat → List Value → en_H → Option (Option Value × en_H)} {xs : Option (List Int32)} {ret : Option FieldType} {bs : en_Bs} (hcf : ∀ i as h w, cf i as h = some w → en_le h w.2) : ∀ {f : Nat} {c : en_C} {w : Option Value × en_H}, en_go IS BS cf xs ret bs f c = some w → en_le c.2.2.2 w.2
  | 0, c, w, hs => by cases hs
  | f + 1, c, w, hs => by
    unfold en_go at hs
    split at hs
    · cases hs
    · split at hs
      · cases hs
      · rename_i c' hb
        exact (en_rb_mono hb).tr (en_go_mono hcf hs)
      · rename_i op c' hb
        split at hs
        · cases hs
        · split at hs
          · cases hs
          · rename_i w' hw
            have h1 := en_rb_mono hb
            have h2 := hcf _ _ _ _ hw
            have h3 := en_go_mono hcf hs
            exact (h1.tr h2).tr h3
      · rename_i w' hb
        cases hs
        exact en_rb_mono hb
theorem en_run_mono {IS : List en_I} {BS : List en_Bs} : ∀ {d F i : Nat} {as : List Value} {h : en_H} {w : Option Value × en_H}, en_run IS BS d F i as h = some w → en_le h w.2
  | 0, F, i, as, h, w, hs => by cases hs
  | d + 1, F, i, as, h, w, hs => by
    unfold en_run at hs
    split at hs
    · split at hs
      · exact en_go_mono (fun i as h w hw => en_run_mono hw) hs
      · cases hs
    · cases hs
section EN3
variable {G : en_G} {xs : Option (List Int32)} {I : en_I} {R : Room} {p : Program} {L : Launch} {e : Env} {s : State} {m : MethodId} {args : Array Value} {below : List Frame} {meth : Method} {c : Code} {Q : State → Prop} {n0 k0 : Nat}
variable {pc : Nat} {l : en_L} {st : List Value} {h : en_H} {H : Heap} {locs : List Loc} {cells slots : Nat} {ls : Array Slot}
/-- a return that fits the method -/
def en_rok (I : en_I) (pc : Nat) (r : Option Value) : Prop := match r with
  | none => decode I.2.1 pc = .ok (.return_, 1) ∧ I.2.2.2.1 = none
  | some (.int v) => decode I.2.1 pc = .ok (.ireturn, 1) ∧ (I.2.2.2.1 = some .int ∨ (I.2.2.2.1 = some .boolean ∧ (v = 0 ∨ v = 1)))
  | some (.long _) => decode I.2.1 pc = .ok (.lreturn, 1) ∧ I.2.2.2.1 = some .long
  | some v => decode I.2.1 pc = .ok (.areturn, 1) ∧ (∃ n, I.2.2.2.1 = some (.object n)) ∧ (v = .null ∨ (∃ a, v = .ref a) ∨ ∃ a, v = .float a)
/-- it is a call -/
def en_isc (i : Instr) : Prop := match i with
  | .invokevirtual _ => True
  | .invokestatic _ => True
  | .invokespecial _ => True
  | _ => False
/-- what comes behind a block -/
def en_KX (G : en_G) (I : en_I) (R : Room) (p : Program) (L : Launch) (e : Env) (s : State) (m : MethodId) (args : Array Value) (below : List Frame) (meth : Method) (c : Code) (Q : State → Prop) (n0 k0 : Nat) (x : en_X) : Prop := match x with
  | .inl c' => en_KK G I R p L e s m args below meth c Q n0 k0 c'.2 c'.1
  | .inr (.inl q) => en_isc q.1.1 → q.1.2.2.1 < 900 → en_okop I q.2.1 q.1 = true → en_KK G I R p L e s m args below meth c Q n0 k0 q.2.2 q.2.1
  | .inr (.inr w) => ∀ (pc : Nat) (H : Heap) (locs : List Loc) (cells slots : Nat) (ls : Array Slot), en_rok I pc w.1 → en_Rl G s n0 k0 w.2 H locs cells slots → W p L e R s m args below meth c H locs cells slots Q (F0 m pc ls (w.1.toList.map (en_cv G)))
set_option maxHeartbeats 4000000 in
theorem en_ctl_sound {op : en_Op} {x : en_X} (ok : en_okop I pc op = true) (hs : en_ctl I.2.2.2.1 op pc l st h = some (some x)) (F : en_Fr G xs I R p s m args meth c) (hl : lv_has ls I.2.2.1 (l.map (en_cq G))) (hr : en_Rl G s n0 k0 h H locs cells slots) (kk : en_KX G I R p L e s m args below meth c Q n0 k0 x) : W p L e R s m args below meth c H locs cells slots Q (F0 m pc ls (st.map (en_cv G))) := by
  have ok0 := ok
  obtain ⟨hx, hb, -⟩ := F
  obtain ⟨i, len, a, b, cc⟩ := op
  simp only [en_okop, Bool.and_eq_true, decide_eq_true_eq] at ok
  obtain ⟨⟨hd, hlen⟩, ok⟩ := ok
  unfold en_ctl at hs
  cases i with
  | goto off =>
    simp only [en_lnok] at hlen
    replace hlen := of_decide_eq_true hlen
    simp only [en_len] at hlen
    subst hlen
    cases hs
    have ht : (pc : Int) + off = (a : Int) := of_decide_eq_true ok
    exact lv_goto hx hb hd ht (kk _ _ _ _ _ hl hr)
  | ifCond cnd off =>
    simp only [en_lnok] at hlen
    replace hlen := of_decide_eq_true hlen
    simp only [en_len] at hlen
    subst hlen
    have ht : (pc : Int) + off = (a : Int) := of_decide_eq_true ok
    simp only [Option.some.injEq] at hs
    split at hs
    · rename_i v r
      cases hs
      have k1 := fun H locs cells slots ls => kk H locs cells slots ls
      dsimp only at k1
      cases cnd with
      | eq => exact lv_if_eq hx hb hd ht (fun hc => by simpa [en_c1, hc] using kk _ _ _ _ _ hl hr) (fun hc => by simpa [en_c1, hc] using kk _ _ _ _ _ hl hr)
      | ne => exact lv_if_ne hx hb hd ht (fun hc => by simpa [en_c1, hc] using kk _ _ _ _ _ hl hr) (fun hc => by simpa [en_c1, hc] using kk _ _ _ _ _ hl hr)
      | lt => exact lv_if_lt hx hb hd ht (fun hc => by simpa [en_c1, hc] using kk _ _ _ _ _ hl hr) (fun hc => by simpa [en_c1, hc] using kk _ _ _ _ _ hl hr)
      | ge => exact lv_if_ge hx hb hd ht (fun hc => by simpa [en_c1, hc] using kk _ _ _ _ _ hl hr) (fun hc => by simpa [en_c1, hc] using kk _ _ _ _ _ hl hr)
      | gt => exact lv_if_gt hx hb hd ht (fun hc => by simpa [en_c1, hc] using kk _ _ _ _ _ hl hr) (fun hc => by simpa [en_c1, hc] using kk _ _ _ _ _ hl hr)
      | le => exact lv_if_le hx hb hd ht (fun hc => by simpa [en_c1, hc] using kk _ _ _ _ _ hl hr) (fun hc => by simpa [en_c1, hc] using kk _ _ _ _ _ hl hr)
    · cases hs
  | if_icmp cnd off =>
    simp only [en_lnok] at hlen
    replace hlen := of_decide_eq_true hlen
    simp only [en_len] at hlen
    subst hlen
    have ht : (pc : Int) + off = (a : Int) := of_decide_eq_true ok
    simp only [Option.some.injEq] at hs
    split at hs
    · rename_i y v r
      cases hs
      cases cnd with
      | eq => exact lv_icmp_eq hx hb hd ht (fun hc => by simpa [en_c2, hc] using kk _ _ _ _ _ hl hr) (fun hc => by simpa [en_c2, hc] using kk _ _ _ _ _ hl hr)
      | ne => exact lv_icmp_ne hx hb hd ht (fun hc => by simpa [en_c2, hc] using kk _ _ _ _ _ hl hr) (fun hc => by simpa [en_c2, hc] using kk _ _ _ _ _ hl hr)
      | lt => exact lv_icmp_lt hx hb hd ht (fun hc => by simpa [en_c2, hc] using kk _ _ _ _ _ hl hr) (fun hc => by simpa [en_c2, hc] using kk _ _ _ _ _ hl hr)
      | ge => exact lv_icmp_ge hx hb hd ht (fun hc => by simpa [en_c2, hc] using kk _ _ _ _ _ hl hr) (fun hc => by simpa [en_c2, hc] using kk _ _ _ _ _ hl hr)
      | gt => exact lv_icmp_gt hx hb hd ht (fun hc => by simpa [en_c2, hc] using kk _ _ _ _ _ hl hr) (fun hc => by simpa [en_c2, hc] using kk _ _ _ _ _ hl hr)
      | le => exact lv_icmp_le hx hb hd ht (fun hc => by simpa [en_c2, hc] using kk _ _ _ _ _ hl hr) (fun hc => by simpa [en_c2, hc] using kk _ _ _ _ _ hl hr)
    · cases hs
  | ifnonnull off =>
    simp only [en_lnok] at hlen
    replace hlen := of_decide_eq_true hlen
    simp only [en_len] at hlen
    subst hlen
    have ht : (pc : Int) + off = (a : Int) := of_decide_eq_true ok
    simp only [Option.some.injEq] at hs
    split at hs
    · cases hs
      exact lv_ifnonnull hx hb hd ht (kk _ _ _ _ _ hl hr)
    · cases hs
      exact lv_ifnonnullN hx hb hd (kk _ _ _ _ _ hl hr)
    · cases hs
  | ifnull off =>
    simp only [en_lnok] at hlen
    replace hlen := of_decide_eq_true hlen
    simp only [en_len] at hlen
    subst hlen
    have ht : (pc : Int) + off = (a : Int) := of_decide_eq_true ok
    simp only [Option.some.injEq] at hs
    split at hs
    · cases hs
      exact lv_ifnull hx hb hd (kk _ _ _ _ _ hl hr)
    · cases hs
      exact lv_ifnullN hx hb hd ht (kk _ _ _ _ _ hl hr)
    · cases hs
  | tableswitch d lo hi offs =>
    have ok : (decide (0 ≤ (pc : Int) + d) && offs.toList.all (fun o => decide (0 ≤ (pc : Int) + o))) = true := ok
    simp only [Bool.and_eq_true, decide_eq_true_eq] at ok
    obtain ⟨o1, o2⟩ := ok
    simp only [Option.some.injEq] at hs
    split at hs
    · rename_i v r
      split at hs
      · rename_i t ht
        cases hs
        unfold en_sw at ht
        split at ht
        · rename_i hv
          cases ht
          exact lv_tableOut hx hb hd hv (by omega) (kk _ _ _ _ _ hl hr)
        · rename_i hv
          split at ht
          · rename_i o ho
            cases ht
            have o3 : 0 ≤ (pc : Int) + o := of_decide_eq_true (List.all_eq_true.mp o2 o (Array.mem_toList_iff.mpr (Array.mem_of_getElem? ho)))
            exact lv_tableIn hx hb hd (fun q => hv (Or.inl q)) (fun q => hv (Or.inr q)) ho (by omega) (kk _ _ _ _ _ hl hr)
          · cases ht
      · cases hs
    · cases hs
  | ireturn =>
    simp only [en_lnok] at hlen
    replace hlen := of_decide_eq_true hlen
    simp only [en_len] at hlen
    subst hlen
    simp only [Option.some.injEq] at hs
    split at hs
    · rename_i v
      split at hs
      · rename_i hret
        cases hs
        exact kk pc _ _ _ _ ls ⟨hd, Or.inl hret⟩ hr
      · rename_i hret
        split at hs
        · rename_i hv
          cases hs
          exact kk pc _ _ _ _ ls ⟨hd, Or.inr ⟨hret, hv⟩⟩ hr
        · cases hs
      · cases hs
    · cases hs
  | lreturn =>
    simp only [en_lnok] at hlen
    replace hlen := of_decide_eq_true hlen
    simp only [en_len] at hlen
    subst hlen
    simp only [Option.some.injEq] at hs
    split at hs
    · rename_i v
      split at hs
      · rename_i hret
        cases hs
        exact kk pc _ _ _ _ ls ⟨hd, hret⟩ hr
      · cases hs
    · cases hs
  | areturn =>
    simp only [en_lnok] at hlen
    replace hlen := of_decide_eq_true hlen
    simp only [en_len] at hlen
    subst hlen
    simp only [Option.some.injEq] at hs
    split at hs
    · rename_i n hret
      split at hs
      · cases hs
        exact kk pc _ _ _ _ ls ⟨hd, ⟨n, hret⟩, Or.inr (Or.inl ⟨_, rfl⟩)⟩ hr
      · cases hs
        exact kk pc _ _ _ _ ls ⟨hd, ⟨n, hret⟩, Or.inl rfl⟩ hr
      · cases hs
        exact kk pc _ _ _ _ ls ⟨hd, ⟨n, hret⟩, Or.inr (Or.inr ⟨_, rfl⟩)⟩ hr
      · cases hs
    · cases hs
  | return_ =>
    simp only [en_lnok] at hlen
    replace hlen := of_decide_eq_true hlen
    simp only [en_len] at hlen
    subst hlen
    simp only [Option.some.injEq] at hs
    split at hs
    · rename_i hret
      split at hs
      · cases hs
        exact kk pc _ _ _ _ ls ⟨hd, hret⟩ hr
      · cases hs
    · cases hs
  | invokevirtual n =>
    simp only at hs
    split at hs
    · rename_i ha
      cases hs
      exact kk trivial ha ok0 _ _ _ _ _ hl hr
    · cases hs
  | invokestatic n =>
    simp only at hs
    split at hs
    · rename_i ha
      cases hs
      exact kk trivial ha ok0 _ _ _ _ _ hl hr
    · cases hs
  | invokespecial n =>
    simp only at hs
    split at hs
    · rename_i ha
      cases hs
      exact kk trivial ha ok0 _ _ _ _ _ hl hr
    · cases hs
  | _ => cases hs
theorem en_ctl_none {ret : Option FieldType} {op : en_Op} (hs : en_ctl ret op pc l st h = none) : (match op.1 with | .invokestatic _ => ¬ op.2.2.1 < 900 | .invokespecial _ => ¬ op.2.2.1 < 900 | .invokevirtual _ => ¬ op.2.2.1 < 900 | _ => True) := by
  unfold en_ctl at hs
  split
  · rename_i hi
    rw [hi] at hs
    simp only at hs
    split at hs
    · cases hs
    · assumption
  · rename_i hi
    rw [hi] at hs
    simp only at hs
    split at hs
    · cases hs
    · assumption
  · rename_i hi
    rw [hi] at hs
    simp only at hs
    split at hs
    · cases hs
    · assumption
  · trivial
theorem en_rb_sound (F : en_Fr G xs I R p s m args meth c) {x : en_X} (hlim : (en_xh x).1.length ≤ n0 + R.cells ∧ (en_xh x).2 ≤ k0 + R.slots) (kk : en_KX G I R p L e s m args below meth c Q n0 k0 x) : ∀ (ops : List en_Op) {pc : Nat} {l : en_L} {st : List Value} {h : en_H} {H : Heap} {locs : List Loc} {cells slots : Nat} {ls : Array Slot}, en_okb I pc ops = true → en_rb xs I.2.2.2.1 ops (pc, l, st, h) = some x → lv_has ls I.2.2.1 (l.map (en_cq G)) → en_Rl G s n0 k0 h H locs cells slots → W p L e R s m args below meth c H locs cells slots Q (F0 m pc ls (st.map (en_cv G)))
  | [], pc, l, st, h, H, locs, cells, slots, ls, ok, hs, hl, hr => by
    cases hs
    exact kk _ _ _ _ _ hl hr
  | op :: r, pc, l, st, h, H, locs, cells, slots, ls, ok, hs, hl, hr => by
    unfold en_okb at ok
    simp only [Bool.and_eq_true] at ok
    unfold en_rb at hs
    split at hs
    · rename_i y hy
      subst hs
      exact en_ctl_sound ok.1 hy F hl hr kk
    · rename_i hn
      split at hs
      · rename_i q hq
        have h1 := en_rb_mono hs
        obtain ⟨i, len, a, b, cc⟩ := op
        refine en_st_sound (en_ctl_none hn) ok.1 hq ⟨F, ⟨Nat.le_trans h1.1 hlim.1, Nat.le_trans h1.2 hlim.2⟩, hl, hr⟩ ?_
        intro H' locs' cells' slots' ls' hl' hr'
        exact en_rb_sound F hlim kk r ok.2 hs hl' hr'
      · cases hs
end EN3
