/-! ===== one instruction ===== -/
section EN1
variable {G : en_G} {xs : Option (List Int32)} {I : en_I} {R : Room} {p : Program} {L : Launch} {e : Env} {s : State} {m : MethodId} {args : Array Value} {below : List Frame} {meth : Method} {c : Code} {Q : State → Prop} {n0 k0 : Nat}
variable {pc : Nat} {l : en_L} {st : List Value} {h : en_H} {q : en_L × List Value × en_H} {H : Heap} {locs : List Loc} {cells slots : Nat} {ls : Array Slot}
/-- what comes behind an instruction -/
def en_KK (G : en_G) (I : en_I) (R : Room) (p : Program) (L : Launch) (e : Env) (s : State) (m : MethodId) (args : Array Value) (below : List Frame) (meth : Method) (c : Code) (Q : State → Prop) (n0 k0 : Nat) (q : en_L × List Value × en_H) (pc' : Nat) : Prop :=
  ∀ (H : Heap) (locs : List Loc) (cells slots : Nat) (ls : Array Slot), lv_has ls I.2.2.1 (q.1.map (en_cq G)) → en_Rl G s n0 k0 q.2.2 H locs cells slots → W p L e R s m args below meth c H locs cells slots Q (F0 m pc' ls (q.2.1.map (en_cv G)))
abbrev en_HY (G : en_G) (xs : Option (List Int32)) (I : en_I) (R : Room) (p : Program) (s : State) (m : MethodId) (args : Array Value) (meth : Method) (c : Code) (n0 k0 : Nat) (l : en_L) (h : en_H) (q : en_L × List Value × en_H) (H : Heap) (locs : List Loc) (cells slots : Nat) (ls : Array Slot) : Prop :=
  en_Fr G xs I R p s m args meth c ∧ (q.2.2.1.length ≤ n0 + R.cells ∧ q.2.2.2 ≤ k0 + R.slots) ∧ lv_has ls I.2.2.1 (l.map (en_cq G)) ∧ en_Rl G s n0 k0 h H locs cells slots
theorem en_s_ldi {i : Nat} {d : Nat} (hdg : decode I.2.1 pc = .ok (.iload i, d)) (hd : d = 2) (hs : en_ldi i l st h = some q) (Y : en_HY G xs I R p s m args meth c n0 k0 l h q H locs cells slots ls) (kk : en_KK G I R p L e s m args below meth c Q n0 k0 q (pc + d)) : W p L e R s m args below meth c H locs cells slots Q (F0 m pc ls (st.map (en_cv G))) := by
  obtain ⟨⟨hx, hb, -⟩, -, hl, hr⟩ := Y
  subst hd
  unfold en_ldi at hs
  split at hs
  · rename_i x hg
    cases hs
    exact lv_iload hx hb hdg (en_loc hl hg) (kk _ _ _ _ _ hl hr)
  · cases hs
theorem en_s_ldin {i : Fin 4} {d : Nat} (hdg : decode I.2.1 pc = .ok (.iload_n i, d)) (hd : d = 1) (hs : en_ldi i.val l st h = some q) (Y : en_HY G xs I R p s m args meth c n0 k0 l h q H locs cells slots ls) (kk : en_KK G I R p L e s m args below meth c Q n0 k0 q (pc + d)) : W p L e R s m args below meth c H locs cells slots Q (F0 m pc ls (st.map (en_cv G))) := by
  obtain ⟨⟨hx, hb, -⟩, -, hl, hr⟩ := Y
  subst hd
  unfold en_ldi at hs
  split at hs
  · rename_i x hg
    cases hs
    exact lv_iload_n hx hb hdg rfl (en_loc hl hg) (kk _ _ _ _ _ hl hr)
  · cases hs
theorem en_s_ldl {i : Nat} {d : Nat} (hdg : decode I.2.1 pc = .ok (.lload i, d)) (hd : d = 2) (hs : en_ldl i l st h = some q) (Y : en_HY G xs I R p s m args meth c n0 k0 l h q H locs cells slots ls) (kk : en_KK G I R p L e s m args below meth c Q n0 k0 q (pc + d)) : W p L e R s m args below meth c H locs cells slots Q (F0 m pc ls (st.map (en_cv G))) := by
  obtain ⟨⟨hx, hb, -⟩, -, hl, hr⟩ := Y
  subst hd
  unfold en_ldl at hs
  split at hs
  · rename_i x hg
    cases hs
    exact lv_lload hx hb hdg (en_loc hl hg) (kk _ _ _ _ _ hl hr)
  · cases hs
theorem en_s_ldln {i : Fin 4} {d : Nat} (hdg : decode I.2.1 pc = .ok (.lload_n i, d)) (hd : d = 1) (hs : en_ldl i.val l st h = some q) (Y : en_HY G xs I R p s m args meth c n0 k0 l h q H locs cells slots ls) (kk : en_KK G I R p L e s m args below meth c Q n0 k0 q (pc + d)) : W p L e R s m args below meth c H locs cells slots Q (F0 m pc ls (st.map (en_cv G))) := by
  obtain ⟨⟨hx, hb, -⟩, -, hl, hr⟩ := Y
  subst hd
  unfold en_ldl at hs
  split at hs
  · rename_i x hg
    cases hs
    exact lv_lload_n hx hb hdg rfl (en_loc hl hg) (kk _ _ _ _ _ hl hr)
  · cases hs
theorem en_s_lda {i : Nat} {d : Nat} (hdg : decode I.2.1 pc = .ok (.aload i, d)) (hd : d = 2) (hs : en_lda i l st h = some q) (Y : en_HY G xs I R p s m args meth c n0 k0 l h q H locs cells slots ls) (kk : en_KK G I R p L e s m args below meth c Q n0 k0 q (pc + d)) : W p L e R s m args below meth c H locs cells slots Q (F0 m pc ls (st.map (en_cv G))) := by
  obtain ⟨⟨hx, hb, -⟩, -, hl, hr⟩ := Y
  subst hd
  unfold en_lda at hs
  split at hs
  · rename_i x hg
    cases hs
    exact lv_aload hx hb hdg (en_loc hl hg) (kk _ _ _ _ _ hl hr)
  · rename_i x hg
    cases hs
    exact lv_aload hx hb hdg (en_loc hl hg) (kk _ _ _ _ _ hl hr)
  · rename_i hg
    cases hs
    exact lv_aloadN hx hb hdg (en_loc hl hg) (kk _ _ _ _ _ hl hr)
  · cases hs
theorem en_s_ldan {i : Fin 4} {d : Nat} (hdg : decode I.2.1 pc = .ok (.aload_n i, d)) (hd : d = 1) (hs : en_lda i.val l st h = some q) (Y : en_HY G xs I R p s m args meth c n0 k0 l h q H locs cells slots ls) (kk : en_KK G I R p L e s m args below meth c Q n0 k0 q (pc + d)) : W p L e R s m args below meth c H locs cells slots Q (F0 m pc ls (st.map (en_cv G))) := by
  obtain ⟨⟨hx, hb, -⟩, -, hl, hr⟩ := Y
  subst hd
  unfold en_lda at hs
  split at hs
  · rename_i x hg
    cases hs
    exact lv_aload_n hx hb hdg rfl (en_loc hl hg) (kk _ _ _ _ _ hl hr)
  · rename_i x hg
    cases hs
    exact lv_aload_n hx hb hdg rfl (en_loc hl hg) (kk _ _ _ _ _ hl hr)
  · rename_i hg
    cases hs
    exact lv_aload_nN hx hb hdg rfl (en_loc hl hg) (kk _ _ _ _ _ hl hr)
  · cases hs
theorem en_s_sti {i : Nat} {d : Nat} (hdg : decode I.2.1 pc = .ok (.istore i, d)) (hd : d = 2) (hi : i < I.2.2.1) (hs : en_sti i l st h = some q) (Y : en_HY G xs I R p s m args meth c n0 k0 l h q H locs cells slots ls) (kk : en_KK G I R p L e s m args below meth c Q n0 k0 q (pc + d)) : W p L e R s m args below meth c H locs cells slots Q (F0 m pc ls (st.map (en_cv G))) := by
  obtain ⟨⟨hx, hb, -⟩, -, hl, hr⟩ := Y
  subst hd
  unfold en_sti at hs
  split at hs
  · cases hs
    exact lv_istore hx hb hdg hl hi (en_put1_map G i (.int _) l) (fun ls' hl' => kk _ _ _ _ _ hl' hr)
  · cases hs
theorem en_s_stin {i : Fin 4} {d : Nat} (hdg : decode I.2.1 pc = .ok (.istore_n i, d)) (hd : d = 1) (hi : i.val < I.2.2.1) (hs : en_sti i.val l st h = some q) (Y : en_HY G xs I R p s m args meth c n0 k0 l h q H locs cells slots ls) (kk : en_KK G I R p L e s m args below meth c Q n0 k0 q (pc + d)) : W p L e R s m args below meth c H locs cells slots Q (F0 m pc ls (st.map (en_cv G))) := by
  obtain ⟨⟨hx, hb, -⟩, -, hl, hr⟩ := Y
  subst hd
  unfold en_sti at hs
  split at hs
  · cases hs
    exact lv_istore_n hx hb hdg rfl hl hi (en_put1_map G i.val (.int _) l) (fun ls' hl' => kk _ _ _ _ _ hl' hr)
  · cases hs
theorem en_s_stl {i : Nat} {d : Nat} (hdg : decode I.2.1 pc = .ok (.lstore i, d)) (hd : d = 2) (hi : i + 1 < I.2.2.1) (hs : en_stl i l st h = some q) (Y : en_HY G xs I R p s m args meth c n0 k0 l h q H locs cells slots ls) (kk : en_KK G I R p L e s m args below meth c Q n0 k0 q (pc + d)) : W p L e R s m args below meth c H locs cells slots Q (F0 m pc ls (st.map (en_cv G))) := by
  obtain ⟨⟨hx, hb, -⟩, -, hl, hr⟩ := Y
  subst hd
  unfold en_stl at hs
  split at hs
  · cases hs
    exact lv_lstore hx hb hdg hl hi (en_put2_map G i (.long _) l) (fun ls' hl' => kk _ _ _ _ _ hl' hr)
  · cases hs
theorem en_s_stln {i : Fin 4} {d : Nat} (hdg : decode I.2.1 pc = .ok (.lstore_n i, d)) (hd : d = 1) (hi : i.val + 1 < I.2.2.1) (hs : en_stl i.val l st h = some q) (Y : en_HY G xs I R p s m args meth c n0 k0 l h q H locs cells slots ls) (kk : en_KK G I R p L e s m args below meth c Q n0 k0 q (pc + d)) : W p L e R s m args below meth c H locs cells slots Q (F0 m pc ls (st.map (en_cv G))) := by
  obtain ⟨⟨hx, hb, -⟩, -, hl, hr⟩ := Y
  subst hd
  unfold en_stl at hs
  split at hs
  · cases hs
    exact lv_lstore_n hx hb hdg rfl hl hi (en_put2_map G i.val (.long _) l) (fun ls' hl' => kk _ _ _ _ _ hl' hr)
  · cases hs
theorem en_s_sta {i : Nat} {d : Nat} (hdg : decode I.2.1 pc = .ok (.astore i, d)) (hd : d = 2) (hi : i < I.2.2.1) (hs : en_sta i l st h = some q) (Y : en_HY G xs I R p s m args meth c n0 k0 l h q H locs cells slots ls) (kk : en_KK G I R p L e s m args below meth c Q n0 k0 q (pc + d)) : W p L e R s m args below meth c H locs cells slots Q (F0 m pc ls (st.map (en_cv G))) := by
  obtain ⟨⟨hx, hb, -⟩, -, hl, hr⟩ := Y
  subst hd
  unfold en_sta at hs
  split at hs
  · cases hs
    exact lv_astore hx hb hdg hl hi (en_put1_map G i (.ref _) l) (fun ls' hl' => kk _ _ _ _ _ hl' hr)
  · cases hs
    exact lv_astoreN hx hb hdg hl hi (en_put1_map G i .null l) (fun ls' hl' => kk _ _ _ _ _ hl' hr)
  · cases hs
theorem en_s_stan {i : Fin 4} {d : Nat} (hdg : decode I.2.1 pc = .ok (.astore_n i, d)) (hd : d = 1) (hi : i.val < I.2.2.1) (hs : en_sta i.val l st h = some q) (Y : en_HY G xs I R p s m args meth c n0 k0 l h q H locs cells slots ls) (kk : en_KK G I R p L e s m args below meth c Q n0 k0 q (pc + d)) : W p L e R s m args below meth c H locs cells slots Q (F0 m pc ls (st.map (en_cv G))) := by
  obtain ⟨⟨hx, hb, -⟩, -, hl, hr⟩ := Y
  subst hd
  unfold en_sta at hs
  split at hs
  · cases hs
    exact lv_astore_n hx hb hdg rfl hl hi (en_put1_map G i.val (.ref _) l) (fun ls' hl' => kk _ _ _ _ _ hl' hr)
  · cases hs
    exact lv_astore_nN hx hb hdg rfl hl hi (en_put1_map G i.val .null l) (fun ls' hl' => kk _ _ _ _ _ hl' hr)
  · cases hs
theorem en_s_gf {i a b cc d : Nat} (ok : en_okw I (.getfield i) pc a b cc = true) (hdg : decode I.2.1 pc = .ok (.getfield i, d)) (hd : d = 3) (hs : en_gf a b l st h = some q) (Y : en_HY G xs I R p s m args meth c n0 k0 l h q H locs cells slots ls) (kk : en_KK G I R p L e s m args below meth c Q n0 k0 q (pc + d)) : W p L e R s m args below meth c H locs cells slots Q (F0 m pc ls (st.map (en_cv G))) := by
  obtain ⟨⟨hx, hb, -, hown, hts, hK, -⟩, -, hl, hr⟩ := Y
  subst hd
  unfold en_gf at hs
  split at hs
  · rename_i pl r
    split at hs
    · rename_i ci fs hp
      split at hs
      · rename_i hci
        subst hci
        split at hs
        · rename_i v hv
          cases hs
          cases hc : en_cl[ci]? with
          | some t =>
            obtain ⟨C, T, N⟩ := t
            simp only [en_okw, hc, Bool.and_eq_true, decide_eq_true_eq] at ok
            obtain ⟨⟨o1, o2⟩, o3⟩ := ok
            have hcl := (en_clf hc).1
            exact va_get (D := G.2.1) (cl := en_cl) (Ts := en_W0) (C := C) (T := T) (N := N) (ref := C) hx hb hts hcl hown hK.1 hr.1 pl (en_cw_at hp) hc b o1 (hts _ (en_in o3 rfl)) (fun x hx => by rw [o2] at hx; exact hx) (v := en_cv G v) (by rw [List.getElem?_map, hv]; rfl) hdg (kk _ _ _ _ _ hl hr)
          | none => simp [en_okw, hc] at ok
        · cases hs
      · cases hs
    · cases hs
  · cases hs
theorem en_s_pf {i a b cc d : Nat} (ok : en_okw I (.putfield i) pc a b cc = true) (hdg : decode I.2.1 pc = .ok (.putfield i, d)) (hd : d = 3) (hs : en_pf a b (en_tyf a b) l st h = some q) (Y : en_HY G xs I R p s m args meth c n0 k0 l h q H locs cells slots ls) (kk : en_KK G I R p L e s m args below meth c Q n0 k0 q (pc + d)) : W p L e R s m args below meth c H locs cells slots Q (F0 m pc ls (st.map (en_cv G))) := by
  obtain ⟨⟨hx, hb, -, hown, hts, hK, -, -, -, hnm⟩, -, hl, hr⟩ := Y
  subst hd
  unfold en_pf at hs
  split at hs
  · rename_i v pl r
    split at hs
    · rename_i ci fs hp
      split at hs
      · rename_i hci
        obtain ⟨hci, hbl, hf⟩ := hci
        subst hci
        cases hs
        cases hc : en_cl[ci]? with
        | some t =>
          obtain ⟨C, T, N⟩ := t
          simp only [en_okw, hc, Bool.and_eq_true, decide_eq_true_eq] at ok
          obtain ⟨⟨⟨o1, o2⟩, o3⟩, o4⟩ := ok
          obtain ⟨c1, c2, c3, -⟩ := en_clf hc
          obtain ⟨f1, f2⟩ := en_fit_ok G hf
          have hlink := hts _ (en_in o3 rfl)
          have hap := va_apart (own := I.1.cls) hts c1 (en_tyf ci) c2 c3 hK.1 hc
          obtain ⟨r0, g1, cell, q1, q2, q3, q4⟩ := hr.1 pl _ (en_cw_at hp)
          have hr0 : r0 = (C, T, N) := Option.some.inj (g1.symm.trans hc)
          subst hr0
          obtain ⟨hS, hfc, kC, hkC, hkind⟩ := hK.1.1 ci _ hc
          obtain ⟨cf, kf, fi, f, hi, hsl⟩ := hS b o1
          have hi' := hi
          rw [o2] at hi'
          have hst := (u_facts hfc hkC (u_lays hts c1 o1) hi).1
          have hlay := hts _ (c1 _ (u_in_lay o1))
          have fin : ∀ H1 : Heap, H1[G.1 + pl]? = some (cell.setSlot (G.2.1.2 ci b) (en_cv G v)) → H1.size = H.size → (∀ q : Nat, q ≠ G.1 + pl → H1[q]? = H[q]?) → W p L e R s m args below meth c H1 (locs ++ [⟨G.1 + pl, G.2.1.2 ci b⟩]) cells slots Q (F0 m (pc + 3) ls (r.map (en_cv G))) := by
            intro H1 e1 e2 e3
            refine kk H1 _ _ _ _ hl (en_wrote hr ?_ e2 (hr.2.2.1.put e2 e3 (Nat.le_add_right _ _)))
            rw [← en_cw_set]
            refine va_P.set hr.1 (en_D G h.1) (en_cw_at hp) ⟨_, hc, t_OB.to (V := updV (vp_V (fs.map (en_cv G))) b (en_cv G v)) ⟨_, e1, q2, q3, t_set q4 hap o1 _⟩ (fun j _ => ?_)⟩ e3
            rw [vp_updV_set (by rw [List.length_map]; exact hbl)]
            show vp_V _ j = vp_V ((fs.set b v).map (en_cv G)) j
            rw [List.map_set]
          by_cases hfin : (T b).2.2.2 = true
          · rw [if_pos hfin] at o4
            simp only [Bool.and_eq_true, decide_eq_true_eq] at o4
            unfold u_lay at hlay
            rw [if_pos hfin] at hlay
            have hcf : m.cls = cf := by
              obtain ⟨_, _, c', _, _, _, -, -, hf', -, -, -, hown2, -⟩ := Cond.laysFinal_spec hlay
              have e1 : c' = cf := by have := hi.symm.trans hf'; simp at this; exact this.1.symm
              rw [o2, o4.2] at hown2
              rw [← e1]; exact Option.some.inj (hown.symm.trans hown2)
            have h6 := u_fits hfc hkC hkind (Or.inr hlay) hi (c2 b o1) f1 f2
            refine W.putFinK hx hb hown hlink hi' hst hcf (hnm o4.1) (by rw [q2]; exact h6) q1 q3 (by rw [hsl]; exact k2_hasslot (q4 b o1)) rfl rfl hdg fun H' e1 e2 e3 => ?_
            rw [hsl] at e1 ⊢
            exact fin H' e1 e2 e3
          · unfold u_lay at hlay
            rw [if_neg hfin] at hlay
            have h6 := u_store hfc hkC hkind hlay hi (c2 b o1) f1 f2
            refine W.putK hx hb (f := f) ⟨hown, hlink, ⟨_, _, _, hi'⟩, hst⟩ (by rw [q2]; exact h6) q1 q3 (by rw [hsl]; exact k2_hasslot (q4 b o1)) rfl rfl hdg fun H' e1 e2 e3 => ?_
            rw [hsl] at e1 ⊢
            exact fin H' e1 e2 e3
        | none => simp [en_okw, hc] at ok
      · cases hs
    · cases hs
  · cases hs
theorem en_inx {i : Int32} {n : Nat} (h0 : ¬ i < 0) (h1 : i.toNatClampNeg < n) : vp_in i n := fun q => q.elim h0 (fun z => Nat.not_le.mpr h1 z)
theorem en_get_lt {α : Type} {ys : List α} {k : Nat} {x : α} (h : ys[k]? = some x) : k < ys.length := (List.getElem?_eq_some_iff.mp h).1
theorem en_getD {α : Type} {ys : List α} {k : Nat} {x d : α} (h : ys[k]? = some x) : ys.getD k d = x := by rw [List.getD_eq_getElem?_getD, h]; rfl
theorem en_s_ial {d : Nat} (hdg : decode I.2.1 pc = .ok (.iaload, d)) (hd : d = 1) (hs : en_ias 0 xs l st h = some q) (Y : en_HY G xs I R p s m args meth c n0 k0 l h q H locs cells slots ls) (kk : en_KK G I R p L e s m args below meth c Q n0 k0 q (pc + d)) : W p L e R s m args below meth c H locs cells slots Q (F0 m pc ls (st.map (en_cv G))) := by
  obtain ⟨⟨hx, hb, -, hown, hts, hK, hB, hX, -, hnm⟩, -, hl, hr⟩ := Y
  subst hd
  unfold en_ias at hs
  split at hs
  · rename_i i pl r
    split at hs
    · rename_i t ys hp
      split at hs
      · rename_i ht
        obtain ⟨rfl, h0⟩ := ht
        split at hs
        · rename_i x hy
          cases hs
          refine va_iald hx hb hK.1 hr.1 pl 0 (en_cw_at hp) (en_tysA (by decide)) (en_inx h0 (en_get_lt hy)) hdg ?_
          rw [en_getD hy]
          exact kk _ _ _ _ _ hl hr
        · cases hs
      · cases hs
    · cases hs
  · rename_i i z r
    split at hs
    · rename_i ys
      split at hs
      · rename_i ht
        obtain ⟨-, rfl, h0⟩ := ht
        split at hs
        · rename_i x hy
          cases hs
          obtain ⟨x1, x2, x3⟩ := hX ys rfl
          refine va_sld (A := fun q => G.1 ≤ q) hx hb x1 x2 (Nat.not_le.mpr x3) hr.2.2.1 (en_inx h0 (en_get_lt hy)) hdg ?_
          rw [en_getD hy]
          exact kk _ _ _ _ _ hl hr
        · cases hs
      · cases hs
    · cases hs
  · cases hs
theorem en_s_bal {d : Nat} (hdg : decode I.2.1 pc = .ok (.baload, d)) (hd : d = 1) (hs : en_ias 2 none l st h = some q) (Y : en_HY G xs I R p s m args meth c n0 k0 l h q H locs cells slots ls) (kk : en_KK G I R p L e s m args below meth c Q n0 k0 q (pc + d)) : W p L e R s m args below meth c H locs cells slots Q (F0 m pc ls (st.map (en_cv G))) := by
  obtain ⟨⟨hx, hb, -, hown, hts, hK, hB, hX, -, hnm⟩, -, hl, hr⟩ := Y
  subst hd
  unfold en_ias at hs
  split at hs
  · rename_i i pl r
    split at hs
    · rename_i t ys hp
      split at hs
      · rename_i ht
        obtain ⟨rfl, h0⟩ := ht
        split at hs
        · rename_i x hy
          cases hs
          refine va_zald hx hb hK.1 hr.1 pl 2 (en_cw_at hp) (en_tysA (by decide)) (en_inx h0 (en_get_lt hy)) hdg ?_
          rw [en_getD hy]
          exact kk _ _ _ _ _ hl hr
        · cases hs
      · cases hs
    · cases hs
  · cases hs
  · cases hs
theorem en_s_lal {d : Nat} (hdg : decode I.2.1 pc = .ok (.laload, d)) (hd : d = 1) (hs : en_lal l st h = some q) (Y : en_HY G xs I R p s m args meth c n0 k0 l h q H locs cells slots ls) (kk : en_KK G I R p L e s m args below meth c Q n0 k0 q (pc + d)) : W p L e R s m args below meth c H locs cells slots Q (F0 m pc ls (st.map (en_cv G))) := by
  obtain ⟨⟨hx, hb, -, hown, hts, hK, hB, hX, -, hnm⟩, -, hl, hr⟩ := Y
  subst hd
  unfold en_lal at hs
  split at hs
  · rename_i i pl r
    split at hs
    · rename_i t ys hp
      split at hs
      · rename_i ht
        obtain ⟨rfl, h0⟩ := ht
        split at hs
        · rename_i x hy
          cases hs
          refine va_lald hx hb hK.1 hr.1 pl 1 (en_cw_at hp) (en_tysA (by decide)) (en_inx h0 (en_get_lt hy)) hdg ?_
          rw [en_getD hy]
          exact kk _ _ _ _ _ hl hr
        · cases hs
      · cases hs
    · cases hs
  · cases hs
theorem en_rf_map (G : en_G) (r : Option Nat) : va_rf (r.map (fun k => G.1 + k)) = en_cv G (en_rf r) := by cases r <;> rfl
theorem en_s_aal {d : Nat} (hdg : decode I.2.1 pc = .ok (.aaload, d)) (hd : d = 1) (hs : en_aal l st h = some q) (Y : en_HY G xs I R p s m args meth c n0 k0 l h q H locs cells slots ls) (kk : en_KK G I R p L e s m args below meth c Q n0 k0 q (pc + d)) : W p L e R s m args below meth c H locs cells slots Q (F0 m pc ls (st.map (en_cv G))) := by
  obtain ⟨⟨hx, hb, -, hown, hts, hK, hB, hX, -, hnm⟩, -, hl, hr⟩ := Y
  subst hd
  unfold en_aal at hs
  split at hs
  · rename_i i pl r
    split at hs
    · rename_i t ys hp
      split at hs
      · rename_i ht
        obtain ⟨ht, h0⟩ := ht
        split at hs
        · rename_i x hy
          cases hs
          have fin : ∀ C : String, en_ty t = .object C → t < 5 → W p L e R s m args below meth c H locs cells slots Q (F0 m pc ls ((Value.int i :: Value.ref pl :: r).map (en_cv G))) := by
            intro C hC h5
            refine va_aldq (C := C) hx hb hK.1 hr.1 pl t (en_cw_at hp) (by rw [← hC]; exact en_tysA h5) (en_inx h0 (en_get_lt hy)) hdg ?_
            rw [en_getD hy, en_rf_map]
            exact kk _ _ _ _ _ hl hr
          rcases ht with rfl | rfl
          · exact fin _ rfl (by decide)
          · exact fin _ rfl (by decide)
        · cases hs
      · cases hs
    · cases hs
  · cases hs
theorem en_arrI (c : ClassId) {n : Nat} {f : Nat → Value} {g : Nat → Int32} (h : ∀ j, j < n → f j = .int (g j)) : arrV c n f = vp_cell c (n, .inl g) := by
  rw [vp_cell_i]
  unfold arrV
  congr 2
  funext j
  exact h j.val j.isLt
theorem en_arrL (c : ClassId) {n : Nat} {f : Nat → Value} {g : Nat → Int64} (h : ∀ j, j < n → f j = .long (g j)) : arrV c n f = vp_cell c (n, .inr (.inl g)) := by
  rw [vp_cell_l]
  unfold arrV
  congr 2
  funext j
  exact h j.val j.isLt
theorem en_arrQ (c : ClassId) {n : Nat} {f : Nat → Value} {g : Nat → Option Nat} (h : ∀ j, j < n → f j = va_rf (g j)) : arrV c n f = vp_cell c (n, .inr (.inr (.inr (.inr g)))) := by
  rw [vp_cell_q]
  unfold arrV
  congr 2
  funext j
  exact h j.val j.isLt
theorem en_updI {ys : List Int32} {k : Nat} {x : Int32} (hk : k < ys.length) (j : Nat) : updV (fun j => Value.int (ys.getD j 0)) k (.int x) j = .int ((ys.set k x).getD j 0) := by
  rw [en_getD_set _ _ _ _ hk]
  unfold updV
  split <;> rfl
theorem en_updL {ys : List Int64} {k : Nat} {x : Int64} (hk : k < ys.length) (j : Nat) : updV (fun j => Value.long (ys.getD j 0)) k (.long x) j = .long ((ys.set k x).getD j 0) := by
  rw [en_getD_set _ _ _ _ hk]
  unfold updV
  split <;> rfl
theorem en_s_iast {d : Nat} (hdg : decode I.2.1 pc = .ok (.iastore, d)) (hd : d = 1) (hs : en_iast 0 l st h = some q) (Y : en_HY G xs I R p s m args meth c n0 k0 l h q H locs cells slots ls) (kk : en_KK G I R p L e s m args below meth c Q n0 k0 q (pc + d)) : W p L e R s m args below meth c H locs cells slots Q (F0 m pc ls (st.map (en_cv G))) := by
  obtain ⟨⟨hx, hb, -, hown, hts, hK, hB, hX, -, hnm⟩, -, hl, hr⟩ := Y
  subst hd
  unfold en_iast at hs
  split at hs
  · rename_i x i pl r
    split at hs
    · rename_i t ys hp
      split at hs
      · rename_i ht
        obtain ⟨rfl, h0, h1⟩ := ht
        cases hs
        refine W.iast hx hb (hr.1 pl _ (en_cw_at hp)) ((hK.1.2 0 _ (en_tysA (by decide))).1 ys.length (fun j => .int (ys.getD j 0))) (fun q => by cases q) (by show ¬ (i < 0 ∨ (arrV _ _ _).slots.size ≤ _); rw [arrV_size]; exact en_inx h0 h1) rfl rfl hdg fun H1 e1 e2 e3 => ?_
        refine kk H1 _ _ _ _ hl (en_wrote hr ?_ e2 (hr.2.2.1.put e2 e3 (Nat.le_add_right _ _)))
        rw [← en_cw_set]
        refine va_P.set hr.1 (en_D G h.1) (en_cw_at hp) ?_ e3
        show H1[_]? = some (vp_cell _ _)
        rw [e1]
        refine congrArg some ?_
        show (arrV (G.2.2.1 0) ys.length (fun j => Value.int (ys.getD j 0))).setSlot i.toNatClampNeg (.int x) = vp_cell (G.2.2.1 0) ((ys.set i.toNatClampNeg x).length, .inl (fun j => (ys.set i.toNatClampNeg x).getD j 0))
        rw [arrV_store, List.length_set]
        exact en_arrI _ (fun j _ => en_updI h1 j)
      · cases hs
    · cases hs
  · cases hs
theorem en_s_bast {d : Nat} (hdg : decode I.2.1 pc = .ok (.bastore, d)) (hd : d = 1) (hs : en_iast 2 l st h = some q) (Y : en_HY G xs I R p s m args meth c n0 k0 l h q H locs cells slots ls) (kk : en_KK G I R p L e s m args below meth c Q n0 k0 q (pc + d)) : W p L e R s m args below meth c H locs cells slots Q (F0 m pc ls (st.map (en_cv G))) := by
  obtain ⟨⟨hx, hb, -, hown, hts, hK, hB, hX, -, hnm⟩, -, hl, hr⟩ := Y
  subst hd
  unfold en_iast at hs
  split at hs
  · rename_i x i pl r
    split at hs
    · rename_i t ys hp
      split at hs
      · rename_i ht
        obtain ⟨rfl, h0, h1⟩ := ht
        rw [if_pos rfl] at hs
        cases hs
        refine W.zast hx hb (hr.1 pl _ (en_cw_at hp)) ((hK.1.2 2 _ (en_tysA (by decide))).1 ys.length (fun j => .int (ys.getD j 0))) (fun q => by cases q) (by show ¬ (i < 0 ∨ (arrV _ _ _).slots.size ≤ _); rw [arrV_size]; exact en_inx h0 h1) rfl rfl hdg fun H1 e1 e2 e3 => ?_
        refine kk H1 _ _ _ _ hl (en_wrote hr ?_ e2 (hr.2.2.1.put e2 e3 (Nat.le_add_right _ _)))
        rw [← en_cw_set]
        refine va_P.set hr.1 (en_D G h.1) (en_cw_at hp) ?_ e3
        show H1[_]? = some (vp_cell _ _)
        rw [e1]
        refine congrArg some ?_
        show (arrV (G.2.2.1 2) ys.length (fun j => Value.int (ys.getD j 0))).setSlot i.toNatClampNeg (.int (x &&& 1)) = vp_cell (G.2.2.1 2) ((ys.set i.toNatClampNeg (x &&& 1)).length, .inl (fun j => (ys.set i.toNatClampNeg (x &&& 1)).getD j 0))
        rw [arrV_store, List.length_set]
        exact en_arrI _ (fun j _ => en_updI h1 j)
      · cases hs
    · cases hs
  · cases hs
theorem en_s_last {d : Nat} (hdg : decode I.2.1 pc = .ok (.lastore, d)) (hd : d = 1) (hs : en_last l st h = some q) (Y : en_HY G xs I R p s m args meth c n0 k0 l h q H locs cells slots ls) (kk : en_KK G I R p L e s m args below meth c Q n0 k0 q (pc + d)) : W p L e R s m args below meth c H locs cells slots Q (F0 m pc ls (st.map (en_cv G))) := by
  obtain ⟨⟨hx, hb, -, hown, hts, hK, hB, hX, -, hnm⟩, -, hl, hr⟩ := Y
  subst hd
  unfold en_last at hs
  split at hs
  · rename_i x i pl r
    split at hs
    · rename_i t ys hp
      split at hs
      · rename_i ht
        obtain ⟨rfl, h0, h1⟩ := ht
        cases hs
        refine W.last hx hb (hr.1 pl _ (en_cw_at hp)) ((hK.1.2 1 _ (en_tysA (by decide))).1 ys.length (fun j => .long (ys.getD j 0))) (fun q => by cases q) (by show ¬ (i < 0 ∨ (arrV _ _ _).slots.size ≤ _); rw [arrV_size]; exact en_inx h0 h1) rfl rfl hdg fun H1 e1 e2 e3 => ?_
        refine kk H1 _ _ _ _ hl (en_wrote hr ?_ e2 (hr.2.2.1.put e2 e3 (Nat.le_add_right _ _)))
        rw [← en_cw_set]
        refine va_P.set hr.1 (en_D G h.1) (en_cw_at hp) ?_ e3
        show H1[_]? = some (vp_cell _ _)
        rw [e1]
        refine congrArg some ?_
        show (arrV (G.2.2.1 1) ys.length (fun j => Value.long (ys.getD j 0))).setSlot i.toNatClampNeg (.long x) = vp_cell (G.2.2.1 1) ((ys.set i.toNatClampNeg x).length, .inr (.inl (fun j => (ys.set i.toNatClampNeg x).getD j 0)))
        rw [arrV_store, List.length_set]
        exact en_arrL _ (fun j _ => en_updL h1 j)
      · cases hs
    · cases hs
  · cases hs
theorem en_aclC {t : Nat} (h : t = 3 ∨ t = 4) : ∃ r : vw_C, en_cl[en_acl t]? = some r ∧ en_ty t = .object r.1 := by
  rcases h with rfl | rfl
  · exact ⟨_, rfl, rfl⟩
  · exact ⟨_, rfl, rfl⟩
theorem en_s_aast {d : Nat} (hdg : decode I.2.1 pc = .ok (.aastore, d)) (hd : d = 1) (hs : en_aast l st h = some q) (Y : en_HY G xs I R p s m args meth c n0 k0 l h q H locs cells slots ls) (kk : en_KK G I R p L e s m args below meth c Q n0 k0 q (pc + d)) : W p L e R s m args below meth c H locs cells slots Q (F0 m pc ls (st.map (en_cv G))) := by
  obtain ⟨⟨hx, hb, -, hown, hts, hK, hB, hX, -, hnm⟩, -, hl, hr⟩ := Y
  subst hd
  unfold en_aast at hs
  split at hs
  · rename_i v i pl r
    split at hs
    · rename_i t ys ci fs hp hv
      split at hs
      · rename_i ht
        obtain ⟨ht, rfl, h0, h1⟩ := ht
        cases hs
        obtain ⟨rc, hrc, hty⟩ := en_aclC ht
        have h5 : t < 5 := by omega
        obtain ⟨r', hr', cellV, g1, g2, g3, -⟩ := hr.1 v _ (en_cw_at hv)
        have hcls := (hK.1.1 (en_acl t) rc hrc).2
        have hRA := (hK.1.2 t _ (en_tysA h5)).2
        have hAO := (hK.1.2 t _ (en_tysA h5)).1
        dsimp only at hRA hAO
        rw [hty] at hRA hAO
        obtain ⟨kA, comp, k1, k2, k3, -⟩ := hRA
        have hcomp : comp = G.2.1.1 (en_acl t) := Option.some.inj (k3.symm.trans hcls.1)
        subst hcomp
        obtain ⟨kC, hkC, -⟩ := hcls.2
        refine W.aast hx hb (hr.1 pl _ (en_cw_at hp)) (fun q h => by cases h) (fun h => by cases h) k1 k2 rfl hkC ⟨h0, by show _ < (arrV _ _ _).slots.size; rw [arrV_size]; exact h1⟩ g1 (fun q h => by rw [g3] at h; cases h) (by rw [g2]; exact hkC) (by rw [g2]; exact va_assign hcls) rfl rfl hdg fun H1 e1 e2 e3 => ?_
        refine kk H1 _ _ _ _ hl (en_wrote hr ?_ e2 (hr.2.2.1.put e2 e3 (Nat.le_add_right _ _)))
        rw [← en_cw_set]
        refine va_P.set hr.1 (en_D G h.1) (en_cw_at hp) ?_ e3
        show H1[_]? = some (vp_cell _ _)
        rw [e1]
        refine congrArg some ?_
        show (arrV (G.2.2.1 t) ys.length (fun j => va_rf ((ys.getD j none).map (fun k => G.1 + k)))).setSlot i.toNatClampNeg (.ref (G.1 + v)) = vp_cell (G.2.2.1 t) ((ys.set i.toNatClampNeg (some v)).length, .inr (.inr (.inr (.inr (fun j => ((ys.set i.toNatClampNeg (some v)).getD j none).map (fun k => G.1 + k))))))
        rw [arrV_store, List.length_set]
        refine en_arrQ _ (fun j _ => ?_)
        rw [en_getD_set _ _ _ _ h1]
        unfold updV
        split <;> rfl
      · cases hs
    · cases hs
  · cases hs
theorem en_szx (G : en_G) (x : en_A) : (en_cx G x).1 = en_sz x := by
  rcases x with ys | ys | ys <;> rfl
theorem en_s_alen {d : Nat} (hdg : decode I.2.1 pc = .ok (.arraylength, d)) (hd : d = 1) (hs : en_alen xs l st h = some q) (Y : en_HY G xs I R p s m args meth c n0 k0 l h q H locs cells slots ls) (kk : en_KK G I R p L e s m args below meth c Q n0 k0 q (pc + d)) : W p L e R s m args below meth c H locs cells slots Q (F0 m pc ls (st.map (en_cv G))) := by
  obtain ⟨⟨hx, hb, -, hown, hts, hK, hB, hX, -, hnm⟩, -, hl, hr⟩ := Y
  subst hd
  unfold en_alen at hs
  split at hs
  · rename_i pl r
    split at hs
    · rename_i t x hp
      split at hs
      · rename_i ht
        cases hs
        exact va_alen hx hb hK.1 hr.1 pl t (en_cw_at hp) (en_tysA ht) (v := Int32.ofNat (en_sz x)) (congrArg Int32.ofNat (en_szx G x)) hdg (kk _ _ _ _ _ hl hr)
      · cases hs
    · cases hs
  · rename_i z r
    split at hs
    · rename_i ys
      split at hs
      · rename_i hz
        subst hz
        cases hs
        obtain ⟨x1, x2, x3⟩ := hX ys rfl
        exact va_slen (A := fun q => G.1 ≤ q) hx hb x1 x2 (Nat.not_le.mpr x3) hr.2.2.1 hdg (kk _ _ _ _ _ hl hr)
      · cases hs
    · cases hs
  · cases hs
theorem en_s_newa {at_ : ArrayType} {t : Nat} {x : Nat → en_A} (ht : t < 3) (hty : newarray.typeOf at_ = en_ty t) (hw : Jvm.Cond.arrayClass (newarray.typeOf at_) ∈ en_W0) (hbt : componentBytes (newarray.typeOf at_) ≤ 8) (hxx : ∀ n : Nat, vp_cell (G.2.2.1 t) (en_cx G (x n)) = arrV (G.2.2.1 t) n (fun _ => defaultValue (newarray.typeOf at_))) {d : Nat} (hdg : decode I.2.1 pc = .ok (.newarray at_, d)) (hd : d = 2) (hs : en_newa t x l st h = some q) (Y : en_HY G xs I R p s m args meth c n0 k0 l h q H locs cells slots ls) (kk : en_KK G I R p L e s m args below meth c Q n0 k0 q (pc + d)) : W p L e R s m args below meth c H locs cells slots Q (F0 m pc ls (st.map (en_cv G))) := by
  obtain ⟨⟨hx, hb, -, hown, hts, hK, hB, hX, -, hnm⟩, hlim, hl, hr⟩ := Y
  subst hd
  unfold en_newa at hs
  split at hs
  · rename_i n r
    split at hs
    · rename_i hn
      cases hs
      have hlim1 : (h.1 ++ [Sum.inl (t, x n.toNatClampNeg)]).length ≤ n0 + R.cells := hlim.1
      have hlim2 : h.2 + n.toNatClampNeg ≤ k0 + R.slots := hlim.2
      rw [List.length_append] at hlim1
      simp only [List.length_cons, List.length_nil] at hlim1
      have hc1 := hr.2.2.2.1
      have hc2 := hr.2.2.2.2
      refine va_newaK hx hb (hts _ hw) rfl hdg rfl hn.1 rfl (Nat.le_trans (Nat.mul_le_mul hn.2 hbt) (by decide)) (by omega) (by omega) rfl fun H1 cA e1 z1 o1 hAr hNm => ?_
      have hRA := (hK.1.2 t _ (en_tysA (by omega))).2
      have hcA : cA = G.2.2.1 t := by
        rw [hty] at hNm
        rcases (show t = 0 ∨ t = 1 ∨ t = 2 by omega) with rfl | rfl | rfl
        · exact Option.some.inj (hNm.symm.trans hRA)
        · exact Option.some.inj (hNm.symm.trans hRA)
        · exact Option.some.inj (hNm.symm.trans hRA)
      subst hcA
      have hr2 := en_push hr (e := .inl (t, x n.toNatClampNeg)) n.toNatClampNeg (by show H1[_]? = some (vp_cell _ _); rw [e1]; exact congrArg some (hxx _).symm) z1 o1
      have hz := hr.2.1
      have hk := kk H1 locs _ _ ls hl hr2
      rw [hz]
      exact hk
    · cases hs
  · cases hs
theorem en_s_newq {i a cc : Nat} (ok : en_okw I (.anewarray i) pc a 0 cc = true) {d : Nat} (hdg : decode I.2.1 pc = .ok (.anewarray i, d)) (hd : d = 3) (hs : en_newa a (fun n => .inr (.inr (List.replicate n none))) l st h = some q) (Y : en_HY G xs I R p s m args meth c n0 k0 l h q H locs cells slots ls) (kk : en_KK G I R p L e s m args below meth c Q n0 k0 q (pc + d)) : W p L e R s m args below meth c H locs cells slots Q (F0 m pc ls (st.map (en_cv G))) := by
  obtain ⟨⟨hx, hb, -, hown, hts, hK, hB, hX, -, hnm⟩, hlim, hl, hr⟩ := Y
  subst hd
  unfold en_newa at hs
  split at hs
  · rename_i n r
    split at hs
    · rename_i hn
      cases hs
      have hlim1 : (h.1 ++ [Sum.inl (a, Sum.inr (Sum.inr (List.replicate n.toNatClampNeg none)))]).length ≤ n0 + R.cells := hlim.1
      have hlim2 : h.2 + n.toNatClampNeg ≤ k0 + R.slots := hlim.2
      rw [List.length_append] at hlim1
      simp only [List.length_cons, List.length_nil] at hlim1
      have hc1 := hr.2.2.2.1
      have hc2 := hr.2.2.2.2
      have fin : ∀ C : String, a < 5 → en_ty a = .object C → (Jvm.Cond.classLink I.1.cls i C).before args s = true → va_AO C s → W p L e R s m args below meth c H locs cells slots Q (F0 m pc ls ((Value.int n :: r).map (en_cv G))) := by
        intro C h5 hC hlink hover
        refine W.anew hx hb hown hlink (va_AO.use hover) rfl hdg rfl hn.1 (by have := hn.2; omega) (by omega) (by omega) fun cA kA comp f1 f2 f3 f4 => ?_
        have hRA := (hK.1.2 a _ (en_tysA h5)).2
        dsimp only at hRA
        rw [hC] at hRA
        obtain ⟨kA', comp', g1, g2, g3, g4⟩ := hRA
        have hcA : cA = G.2.2.1 a := Option.some.inj (f1.symm.trans g4)
        subst hcA
        generalize hH1 : H.push ({ cls := G.2.2.1 a, slots := Array.replicate n.toNatClampNeg .null, vm := .none } : Cell) = H1
        have z1 : H1.size = H.size + 1 := by rw [← hH1, Array.size_push]
        have e1 : H1[H.size]? = some (arrV (G.2.2.1 a) n.toNatClampNeg (fun _ => .null)) := by rw [← hH1, Array.getElem?_push_size, ← arrV_new]
        have o1 : ∀ q : Nat, q < H.size → H1[q]? = H[q]? := fun q hq => by rw [← hH1, Array.getElem?_push, if_neg (Nat.ne_of_lt hq)]
        have hr2 := en_push hr (e := .inl (a, .inr (.inr (List.replicate n.toNatClampNeg none)))) n.toNatClampNeg (by
          show H1[_]? = some (vp_cell _ _)
          rw [e1]
          refine congrArg some ?_
          show arrV _ _ _ = vp_cell (G.2.2.1 a) ((List.replicate n.toNatClampNeg none).length, _)
          rw [List.length_replicate]
          refine en_arrQ _ (fun j hj => ?_)
          rw [List.getD_eq_getElem?_getD, List.getElem?_replicate, if_pos hj]
          rfl) z1 o1
        have hz := hr.2.1
        have hk := kk H1 locs _ _ ls hl hr2
        rw [hz]
        exact hk
      simp only [en_okw] at ok
      split at ok
      · rename_i ha
        subst ha
        exact fin _ (by decide) rfl (hts _ (en_in (of_decide_eq_true ok) rfl)) hK.2.1
      · simp only [Bool.and_eq_true, decide_eq_true_eq] at ok
        obtain ⟨rfl, ok⟩ := ok
        exact fin _ (by decide) rfl (hts _ (en_in ok rfl)) hK.2.2.1
    · cases hs
  · cases hs
theorem en_dflt_cv (G : en_G) (a : Nat) : ∀ v ∈ en_dflt a, en_cv G v = v := by
  have hq : ∀ v ∈ en_dflt a, (match v with | .int _ => true | .long _ => true | .null => true | _ => false) = true := by
    unfold en_dflt
    split <;> decide +kernel
  intro v hv
  have h1 := hq v hv
  cases v <;> first | rfl | exact absurd h1 Bool.false_ne_true
theorem en_s_new {i a b cc : Nat} (ok : en_okw I (.new i) pc a b cc = true) {d : Nat} (hdg : decode I.2.1 pc = .ok (.new i, d)) (hd : d = 3) (hs : q = (l, .ref h.1.length :: st, (h.1 ++ [.inr (a, en_dflt a)], h.2 + (en_dflt a).length))) (Y : en_HY G xs I R p s m args meth c n0 k0 l h q H locs cells slots ls) (kk : en_KK G I R p L e s m args below meth c Q n0 k0 q (pc + d)) : W p L e R s m args below meth c H locs cells slots Q (F0 m pc ls (st.map (en_cv G))) := by
  obtain ⟨⟨hx, hb, -, hown, hts, hK, hB, hX, -, hnm⟩, hlim, hl, hr⟩ := Y
  subst hd
  subst hs
  have hlim1 : (h.1 ++ [Sum.inr (a, en_dflt a)]).length ≤ n0 + R.cells := hlim.1
  have hlim2 : h.2 + (en_dflt a).length ≤ k0 + R.slots := hlim.2
  rw [List.length_append] at hlim1
  simp only [List.length_cons, List.length_nil] at hlim1
  have hc1 := hr.2.2.2.1
  have hc2 := hr.2.2.2.2
  cases hc : en_cl[a]? with
  | some t =>
    obtain ⟨C, T, N⟩ := t
    simp only [en_okw, hc, decide_eq_true_eq] at ok
    obtain ⟨c1, c2, c3, c4, c5, c6, c7⟩ := en_clf hc
    have hKn := hK.1.1 a _ hc
    refine W.newcK hx hb hown (hts _ (en_in ok rfl)) (hts _ c4) (hts _ c5) rfl hdg (by omega) (by omega) hKn.2.1 rfl fun H1 kC hkC e1 z1 o1 => ?_
    rw [← c7]
    have hr2 := en_push hr (e := .inr (a, en_dflt a)) (en_dflt a).length (by
      refine ⟨_, hc, (u_born (en_tyf a) hts c1 hKn hkC e1 c2).to (fun j hj => ?_)⟩
      rw [c6 j hj]
      show vp_V (en_dflt a) j = vp_V ((en_dflt a).map (en_cv G)) j
      have hD : ∀ v ∈ en_dflt a, en_cv G v = v := en_dflt_cv G a
      rw [show (en_dflt a).map (en_cv G) = en_dflt a from by
        conv => rhs; rw [← List.map_id (en_dflt a)]
        exact List.map_congr_left hD]) z1 o1
    have hz := hr.2.1
    have hk := kk H1 locs _ _ ls hl hr2
    rw [hz]
    exact hk
  | none => simp [en_okw, hc] at ok
end EN1
