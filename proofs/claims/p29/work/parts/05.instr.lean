/-! ===== System.arraycopy, Math, Object; then every instruction ===== -/
section EN2
variable {G : en_G} {xs : Option (List Int32)} {I : en_I} {R : Room} {p : Program} {L : Launch} {e : Env} {s : State} {m : MethodId} {args : Array Value} {below : List Frame} {meth : Method} {c : Code} {Q : State → Prop} {n0 k0 : Nat}
variable {pc : Nat} {l : en_L} {st : List Value} {h : en_H} {q : en_L × List Value × en_H} {H : Heap} {locs : List Loc} {cells slots : Nat} {ls : Array Slot}
theorem en_nn {z : Int32} (hz : ¬ z < 0) : z.toInt = (z.toNatClampNeg : Int) := by
  have hz0 : (0 : Int) ≤ z.toInt := by
    have := Int32.not_lt.mp hz
    simpa using Int32.le_iff_toInt_le.mp this
  show z.toInt = ((z.toInt.toNat : Nat) : Int)
  omega
theorem en_s_acpy {i cc : Nat} (o3 : en_w cc = some (.methodLink I.1.cls i arraycopyName)) {d : Nat} (hdg : decode I.2.1 pc = .ok (.invokestatic i, d)) (hd : d = 3) (hs : en_acpy l st h = some q) (Y : en_HY G xs I R p s m args meth c n0 k0 l h q H locs cells slots ls) (kk : en_KK G I R p L e s m args below meth c Q n0 k0 q (pc + d)) : W p L e R s m args below meth c H locs cells slots Q (F0 m pc ls (st.map (en_cv G))) := by
  obtain ⟨⟨hx, hb, hml, hown, hts, hK, hB, hX, hR, hnm⟩, -, hl, hr⟩ := Y
  subst hd
  unfold en_acpy at hs
  split at hs
  · rename_i n dp p1 sp p0 r
    split at hs
    · rename_i t0 f t1 g hp0 hp1
      split at hs
      · rename_i hc
        obtain ⟨⟨rfl, rfl, hcs⟩, ⟨h1, h2, h3⟩, h4, h5⟩ := hc
        cases hs
        intro T hT X
        have hc0 : H[G.1 + p0]? = some (vp_cell (G.2.2.1 0) (f.length, .inl (fun j => f.getD j 0))) := hr.1 p0 _ (en_cw_at hp0)
        have hc1 : H[G.1 + p1]? = some (vp_cell (G.2.2.1 0) (g.length, .inl (fun j => g.getD j 0))) := hr.1 p1 _ (en_cw_at hp1)
        have hK0 := (hK.1.2 0 _ (en_tysA (by decide))).1
        obtain ⟨-, ka, hk0, cm0, hkk0⟩ := hK0 f.length (fun j => .int (f.getD j 0))
        obtain ⟨-, kb, hk1, cm1, hkk1⟩ := hK0 g.length (fun j => .int (g.getD j 0))
        obtain ⟨vm', X', step⟩ := X.arraycopy hx hown (hts _ (en_in o3 rfl)) (hts _ en_an) (hts _ en_as) (hts _ en_ai) (src := G.1 + p0) (dst := G.1 + p1) (cs := vp_cell (G.2.2.1 0) (f.length, .inl (fun j => f.getD j 0))) (cd := vp_cell (G.2.2.1 0) (g.length, .inl (fun j => g.getD j 0))) (srcPos := sp) (destPos := dp) (n := n) (by rw [hT]; exact hc0) (by rw [hT]; exact hc1)
          (fun _ h => by cases h) (fun _ h => by cases h) (fun h => by cases h) (fun h => by cases h) hk0 hk1 hkk0 hkk1 (by simp [en_ty, refKind]) h1 h2 h3
          (by rw [en_nn h1, en_nn h3]; show ¬ _ > ((arrV (G.2.2.1 0) f.length (fun j => .int (f.getD j 0))).slots.size : Int); rw [arrV_size]; omega)
          (by rw [en_nn h2, en_nn h3]; show ¬ _ > ((arrV (G.2.2.1 0) g.length (fun j => .int (g.getD j 0))).slots.size : Int); rw [arrV_size]; omega)
          (fun vm₁ _ i hi => by
            have e : (vp_cell (G.2.2.1 0) (f.length, .inl (fun j => f.getD j 0))).slots.getD (sp.toNatClampNeg + i) .null = .int (f.getD (sp.toNatClampNeg + i) 0) := by
              show (arrV (G.2.2.1 0) f.length (fun j => .int (f.getD j 0))).slots.getD _ _ = _
              rw [Array.getD_eq_getD_getElem?, arrV_read _ _ (by omega)]
              rfl
            refine ⟨?_, ?_⟩
            · rw [e]
              rfl
            · rw [e]
              exact trivial)
          (g := F0 m pc ls (.int n :: .int dp :: .ref (G.1 + p1) :: .int sp :: .ref (G.1 + p0) :: r.map (en_cv G))) rfl (by rw [hml]; exact hl.1) (rest := r.map (en_cv G)) rfl (by rw [hb]; exact hdg) (Nat.le_trans (by decide) hR.1) (by
            have h9 := hR.2
            have h8 : ((r.map (en_cv G)).map fun v => v.category).sum ≤ 8 := by rw [en_csm]; exact hcs
            have h7 : nativeFrameWords "java/lang/System" "arraycopy" 5 ≤ 40 := by decide +kernel
            show 2 * 0 + _ + _ ≤ _
            omega)
        have e1 : copied (vp_cell (G.2.2.1 0) (f.length, .inl (fun j => f.getD j 0))) (vp_cell (G.2.2.1 0) (g.length, .inl (fun j => g.getD j 0))) sp dp n = vp_cell (G.2.2.1 0) (g.length, .inl (va_cpy (fun j => f.getD j 0) (fun j => g.getD j 0) sp.toNatClampNeg dp.toNatClampNeg n.toNatClampNeg)) := va_copied (fun z => .int z) (G.2.2.1 0) (G.2.2.1 0) (fun j => f.getD j 0) (fun j => g.getD j 0) h4
        rw [e1] at X' step
        have hl2 : G.1 + p1 < H.size := (Array.getElem?_eq_some_iff.mp hc1).1
        have hheap : ((T.setVm vm').setCell (G.1 + p1) (vp_cell (G.2.2.1 0) (g.length, .inl (va_cpy (fun j => f.getD j 0) (fun j => g.getD j 0) sp.toNatClampNeg dp.toNatClampNeg n.toNatClampNeg)))).heap = H.setIfInBounds (G.1 + p1) (vp_cell (G.2.2.1 0) (g.length, .inl (va_cpy (fun j => f.getD j 0) (fun j => g.getD j 0) sp.toNatClampNeg dp.toNatClampNeg n.toNatClampNeg))) := by rw [← hT]; rfl
        generalize hz : H.setIfInBounds (G.1 + p1) (vp_cell (G.2.2.1 0) (g.length, .inl (va_cpy (fun j => f.getD j 0) (fun j => g.getD j 0) sp.toNatClampNeg dp.toNatClampNeg n.toNatClampNeg))) = H1 at hheap
        have oq : ∀ q : Nat, q ≠ G.1 + p1 → H1[q]? = H[q]? := fun q hq => by rw [← hz]; simp [Array.getElem?_setIfInBounds, Ne.symm hq]
        have ea : H1[G.1 + p1]? = some (vp_cell (G.2.2.1 0) (g.length, .inl (va_cpy (fun j => f.getD j 0) (fun j => g.getD j 0) sp.toNatClampNeg dp.toNatClampNeg n.toNatClampNeg))) := by rw [← hz]; simp [Array.getElem?_setIfInBounds, hl2]
        have zs : H1.size = H.size := by rw [← hz]; simp
        obtain ⟨t, a1, b1⟩ := kk H1 _ cells slots ls hl (en_wrote hr (by
            rw [← en_cw_set]
            refine va_P.set hr.1 (en_D G h.1) (en_cw_at hp1) ?_ oq
            show H1[_]? = some (vp_cell _ _)
            rw [ea]
            refine congrArg some ?_
            show vp_cell _ _ = vp_cell (G.2.2.1 0) ((en_cpy f g sp.toNatClampNeg dp.toNatClampNeg n.toNatClampNeg).length, .inl (fun j => (en_cpy f g sp.toNatClampNeg dp.toNatClampNeg n.toNatClampNeg).getD j 0))
            rw [en_cpy_length f g h4 h5]
            exact en_ceI _ (fun j _ => (en_getD_cpy f g 0 h4 h5 j).symm)) zs ⟨by rw [zs]; exact hr.2.2.1.1, fun q g1 g2 => by
              rw [oq q (fun e => g2 (by rw [e]; exact Nat.le_add_right _ _))]
              exact hr.2.2.1.2.1 q g1 g2, fun q hq => by
              rcases List.mem_append.mp hq with h | h
              · exact hr.2.2.1.2.2 q h
              · obtain ⟨z, -, hz⟩ := List.mem_map.mp h
                rw [← hz]
                exact Nat.le_add_right _ _⟩) _ hheap X'
        exact ⟨t, step t a1, b1⟩
      · cases hs
    · cases hs
  · cases hs
theorem en_s_nat {i a b cc : Nat} (h9 : ¬ a < 900) (ok : en_okw I (.invokestatic i) pc a b cc = true) {d : Nat} (hdg : decode I.2.1 pc = .ok (.invokestatic i, d)) (hd : d = 3) (hs : en_nat a l st h = some q) (Y : en_HY G xs I R p s m args meth c n0 k0 l h q H locs cells slots ls) (kk : en_KK G I R p L e s m args below meth c Q n0 k0 q (pc + d)) : W p L e R s m args below meth c H locs cells slots Q (F0 m pc ls (st.map (en_cv G))) := by
  have Y0 := Y
  obtain ⟨⟨hx, hb, hml, hown, hts, hK, hB, hX, hR, hnm⟩, hlim, hl, hr⟩ := Y
  have hlim' := hlim
  simp only [en_okw, if_neg h9] at ok
  unfold en_nat at hs
  have hsz : c.maxLocals = ls.size := hml.trans hl.1.symm
  by_cases a0 : a = 900
  · subst a0
    simp at ok
  rw [if_neg a0] at hs
  by_cases a1 : a = 901
  · subst a1
    rw [if_pos rfl] at hs ok
    exact en_s_acpy (of_decide_eq_true ok) hdg hd hs Y0 kk
  rw [if_neg a1] at hs ok
  by_cases a2 : a = 902
  · subst a2
    rw [if_pos rfl] at hs ok
    have ok := of_decide_eq_true ok
    subst hd
    split at hs
    · rename_i y x r
      split at hs
      · rename_i hcs
        cases hs
        have h8 : ((r.map (en_cv G)).map fun v => v.category).sum ≤ 8 := by rw [en_csm]; exact hcs
        have h7 := hR.2
        have c1 := hr.2.2.2.1
        have c2 := hr.2.2.2.2
        exact va_mmax hx hb hsz hown (hts _ (en_in ok rfl)) (hts _ en_mxs) (hts _ en_mi) (hts _ en_mxc) (Nat.le_trans (by decide) hR.1) (by omega) (by have := hlim'.1; dsimp only at this; omega) (by have := hlim'.2; dsimp only at this; omega) hdg (kk _ _ _ _ _ hl hr)
      · cases hs
    · cases hs
  rw [if_neg a2] at hs ok
  by_cases a3 : a = 903
  · subst a3
    rw [if_pos rfl] at hs ok
    have ok := of_decide_eq_true ok
    subst hd
    split at hs
    · rename_i y x r
      split at hs
      · rename_i hcs
        cases hs
        have h8 : ((r.map (en_cv G)).map fun v => v.category).sum ≤ 8 := by rw [en_csm]; exact hcs
        have h7 := hR.2
        have c1 := hr.2.2.2.1
        have c2 := hr.2.2.2.2
        exact va_mmin hx hb hsz hown (hts _ (en_in ok rfl)) (hts _ en_mns) (hts _ en_mi) (hts _ en_mnc) (Nat.le_trans (by decide) hR.1) (by omega) (by have := hlim'.1; dsimp only at this; omega) (by have := hlim'.2; dsimp only at this; omega) hdg (kk _ _ _ _ _ hl hr)
      · cases hs
    · cases hs
  rw [if_neg a3] at hs ok
  by_cases a4 : a = 904
  · subst a4
    rw [if_pos rfl] at hs ok
    have ok := of_decide_eq_true ok
    subst hd
    split at hs
    · rename_i y x r
      split at hs
      · rename_i hcs
        cases hs
        have h8 : ((r.map (en_cv G)).map fun v => v.category).sum ≤ 8 := by rw [en_csm]; exact hcs
        have h7 := hR.2
        have c1 := hr.2.2.2.1
        have c2 := hr.2.2.2.2
        exact va_mmax_long hx hb hsz hown (hts _ (en_in ok rfl)) (hts _ en_mxls) (hts _ en_mi) (hts _ en_mxlc) (Nat.le_trans (by decide) hR.1) (by omega) (by have := hlim'.1; dsimp only at this; omega) (by have := hlim'.2; dsimp only at this; omega) hdg (kk _ _ _ _ _ hl hr)
      · cases hs
    · cases hs
  rw [if_neg a4] at hs ok
  by_cases a5 : a = 905
  · subst a5
    rw [if_pos rfl] at hs ok
    have ok := of_decide_eq_true ok
    subst hd
    split at hs
    · rename_i y x r
      split at hs
      · rename_i hcs
        cases hs
        have h8 : ((r.map (en_cv G)).map fun v => v.category).sum ≤ 8 := by rw [en_csm]; exact hcs
        have h7 := hR.2
        have c1 := hr.2.2.2.1
        have c2 := hr.2.2.2.2
        exact va_mmin_long hx hb hsz hown (hts _ (en_in ok rfl)) (hts _ en_mnls) (hts _ en_mi) (hts _ en_mnlc) (Nat.le_trans (by decide) hR.1) (by omega) (by have := hlim'.1; dsimp only at this; omega) (by have := hlim'.2; dsimp only at this; omega) hdg (kk _ _ _ _ _ hl hr)
      · cases hs
    · cases hs
  rw [if_neg a5] at hs ok
  cases ok
theorem en_s_vir {i a b cc : Nat} (h9 : ¬ a < 900) (ok : en_okw I (.invokevirtual i) pc a b cc = true) {d : Nat} (hdg : decode I.2.1 pc = .ok (.invokevirtual i, d)) (hd : d = 3) (hs : en_nat a l st h = some q) (Y : en_HY G xs I R p s m args meth c n0 k0 l h q H locs cells slots ls) (kk : en_KK G I R p L e s m args below meth c Q n0 k0 q (pc + d)) : W p L e R s m args below meth c H locs cells slots Q (F0 m pc ls (st.map (en_cv G))) := by
  obtain ⟨⟨hx, hb, hml, hown, hts, hK, hB, hX, hR, hnm⟩, hlim, hl, hr⟩ := Y
  simp only [en_okw, if_neg h9] at ok
  obtain ⟨adV, hT0⟩ := hK.2.2.2.2.2
  have hCF : CallFix p m c I.2.1 I.2.2.1 s args en_W0 I.1.cls := ⟨hx, hb, hml, hown, hts⟩
  have c1 := hr.2.2.2.1
  have c2 := hr.2.2.2.2
  subst hd
  by_cases a6 : a = 906
  · subst a6
    rw [if_pos rfl] at ok
    have ok := of_decide_eq_true ok
    have hs2 : en_slen l st h = some q := hs
    unfold en_slen at hs2
    split at hs2
    · rename_i z r
      split at hs2
      · rename_i hc
        obtain ⟨hcs, z1, z2⟩ := hc
        cases hs2
        obtain ⟨k, hk⟩ : ∃ k, z.toNat = k + 1 := ⟨z.toNat - 1, by omega⟩
        have e1 : en_cv G (.float z) = .ref (G.2.2.2 (k + 1)) := by rw [← hk]; rfl
        have hSS := (hT0 k (by omega)).kept hr.2.2.1.2.1
        have h8 : ((r.map (en_cv G)).map fun v => v.category).sum ≤ 8 := by rw [en_csm]; exact hcs
        have k1 := kk _ _ _ _ _ hl hr
        dsimp only at k1
        rw [List.map_cons, show z.toNat - 1 = k by omega] at k1
        rw [List.map_cons, e1]
        refine st_after _ rfl (va_runV (As := []) (rest := r.map (en_cv G)) (C := "java/lang/String") (b := G.2.2.2 (k + 1)) hCF (sm_le (G := G) (a := G.2.2.2 (k + 1)) (t := adV k) (n := en_tl.getD k 0) (f := fun j => .int ((en_txt.getD k []).getD j 0))) ⟨callB_of 0 hts (st_good sw_le) rfl rfl rfl (hts _ si_str) (hts _ (en_in ok rfl)) ⟨by decide +kernel, by decide +kernel, by decide +kernel⟩ ⟨by show 2 + 1 ≤ _; exact Nat.le_trans (by decide) hR.1, by show 8 + (1 + 11) + 32 * 2 ≤ _; exact Nat.le_trans (by decide) hR.2⟩, hts _ sk_le, hts _ ss_le⟩ ⟨st_blind, st_recv hSS, st_use hSS⟩ rfl rfl hl.1 rfl (lv_room h8) hdg ⟨by have := hlim.1; dsimp only at this; omega, by have := hlim.2; dsimp only at this; omega⟩) k1
      · cases hs2
    · cases hs2
  rw [if_neg a6] at ok
  by_cases a7 : a = 907
  · subst a7
    rw [if_pos rfl] at ok
    have ok := of_decide_eq_true ok
    have hs2 : en_scha l st h = some q := hs
    unfold en_scha at hs2
    split at hs2
    · rename_i j z r
      split at hs2
      · rename_i hc
        obtain ⟨⟨hcs, z1, z2⟩, j1, j2⟩ := hc
        cases hs2
        obtain ⟨k, hk⟩ : ∃ k, z.toNat = k + 1 := ⟨z.toNat - 1, by omega⟩
        have hk1 : z.toNat - 1 = k := by omega
        rw [hk1] at j2
        have e1 : en_cv G (.float z) = .ref (G.2.2.2 (k + 1)) := by rw [← hk]; rfl
        have hSS := (hT0 k (by omega)).kept hr.2.2.1.2.1
        have h8 : ((r.map (en_cv G)).map fun v => v.category).sum ≤ 8 := by rw [en_csm]; exact hcs
        have hln := st_len k (by omega)
        obtain ⟨b1, b2⟩ := st_chr k (by omega) _ j2
        have h1 : j < Int32.ofNat (en_tl.getD k 0) := by
          rw [Int32.lt_iff_toInt_lt, en_nn j1, Int32.toInt_ofNat_of_lt (by omega)]
          exact Int.ofNat_lt.mpr j2
        have k1 := kk _ _ _ _ _ hl hr
        dsimp only at k1
        rw [List.map_cons, hk1] at k1
        rw [List.map_cons, List.map_cons, e1]
        refine st_after _ rfl (va_runV (As := [.int j]) (rest := r.map (en_cv G)) (C := "java/lang/String") (b := G.2.2.2 (k + 1)) hCF (sm_ca (G := G) (a := G.2.2.2 (k + 1)) (t := adV k) (n := en_tl.getD k 0) (f := fun j => .int ((en_txt.getD k []).getD j 0)) j1 h1 j2 rfl b1 b2) ⟨callB_of 1 hts (st_good sw_ca) rfl rfl rfl (hts _ si_str) (hts _ (en_in ok rfl)) ⟨by decide +kernel, by decide +kernel, by decide +kernel⟩ ⟨by show 4 + 1 ≤ _; exact Nat.le_trans (by decide) hR.1, by show 8 + (2 + 11) + 32 * 4 ≤ _; exact Nat.le_trans (by decide) hR.2⟩, hts _ sk_ca, hts _ ss_ca⟩ ⟨st_blind, st_recv hSS, st_use hSS⟩ rfl rfl hl.1 rfl (lv_room h8) hdg ⟨by have := hlim.1; dsimp only at this; omega, by have := hlim.2; dsimp only at this; omega⟩) k1
      · cases hs2
    · cases hs2
  rw [if_neg a7] at ok
  cases ok
theorem en_s_obj {i a b cc : Nat} (h9 : ¬ a < 900) (ok : en_okw I (.invokespecial i) pc a b cc = true) {d : Nat} (hdg : decode I.2.1 pc = .ok (.invokespecial i, d)) (hd : d = 3) (hs : en_nat a l st h = some q) (Y : en_HY G xs I R p s m args meth c n0 k0 l h q H locs cells slots ls) (kk : en_KK G I R p L e s m args below meth c Q n0 k0 q (pc + d)) : W p L e R s m args below meth c H locs cells slots Q (F0 m pc ls (st.map (en_cv G))) := by
  obtain ⟨⟨hx, hb, hml, hown, hts, hK, hB, hX, hR, hnm⟩, hlim, hl, hr⟩ := Y
  simp only [en_okw, if_neg h9, Bool.and_eq_true, decide_eq_true_eq] at ok
  obtain ⟨rfl, ok⟩ := ok
  unfold en_nat at hs
  rw [if_pos rfl] at hs
  subst hd
  split at hs
  · rename_i v r
    split at hs
    · rename_i hcs
      cases hs
      have h8 : ((r.map (en_cv G)).map fun v => v.category).sum ≤ 8 := by rw [en_csm]; exact hcs
      have h7 := hR.2
      exact W.objInit hx hb hown (hts _ (en_in ok rfl)) (hts _ en_oi) (hts _ en_oc) (g := F0 m pc ls (.ref (G.1 + v) :: r.map (en_cv G))) rfl (by rw [hml]; exact hl.1) rfl hdg (Nat.le_trans (by decide) hR.1) (by show 2 * 0 + _ + 12 ≤ _; omega) (kk _ _ _ _ _ hl hr)
    · cases hs
  · cases hs
set_option maxHeartbeats 4000000 in
theorem en_st_sound {i : Instr} {len a b cc : Nat} (h9 : (match i with | .invokestatic _ => ¬ a < 900 | .invokespecial _ => ¬ a < 900 | .invokevirtual _ => ¬ a < 900 | _ => True)) (ok : en_okop I pc (i, len, a, b, cc) = true) (hs : en_st xs i a b l st h = some q) (Y : en_HY G xs I R p s m args meth c n0 k0 l h q H locs cells slots ls) (kk : en_KK G I R p L e s m args below meth c Q n0 k0 q (pc + len)) : W p L e R s m args below meth c H locs cells slots Q (F0 m pc ls (st.map (en_cv G))) := by
  have Y0 := Y
  obtain ⟨⟨hx, hb, hml, hown, hts, hK, hB, hX, hR, hnm⟩, hlim, hl, hr⟩ := Y
  simp only [en_okop, Bool.and_eq_true, decide_eq_true_eq] at ok
  obtain ⟨⟨hd, hlen⟩, ok⟩ := ok
  cases i with
  | iconst n =>
    simp only [en_lnok] at hlen
    replace hlen := of_decide_eq_true hlen
    simp only [en_len] at hlen
    subst hlen
    simp only [en_st, Option.some.injEq] at hs
    subst hs
    exact lv_iconst hx hb hd rfl (kk _ _ _ _ _ hl hr)
  | bipush n =>
    simp only [en_lnok] at hlen
    replace hlen := of_decide_eq_true hlen
    simp only [en_len] at hlen
    subst hlen
    simp only [en_st, Option.some.injEq] at hs
    subst hs
    exact lv_bipush hx hb hd rfl (kk _ _ _ _ _ hl hr)
  | sipush n =>
    simp only [en_lnok] at hlen
    replace hlen := of_decide_eq_true hlen
    simp only [en_len] at hlen
    subst hlen
    simp only [en_st, Option.some.injEq] at hs
    subst hs
    exact lv_sipush hx hb hd rfl (kk _ _ _ _ _ hl hr)
  | lconst n =>
    simp only [en_lnok] at hlen
    replace hlen := of_decide_eq_true hlen
    simp only [en_len] at hlen
    subst hlen
    simp only [en_st, Option.some.injEq] at hs
    subst hs
    exact lv_lconst hx hb hd rfl (kk _ _ _ _ _ hl hr)
  | aconst_null =>
    simp only [en_lnok] at hlen
    replace hlen := of_decide_eq_true hlen
    simp only [en_len] at hlen
    subst hlen
    simp only [en_st, Option.some.injEq] at hs
    subst hs
    exact lv_null hx hb hd (kk _ _ _ _ _ hl hr)
  | ldc n =>
    simp only [en_lnok] at hlen
    replace hlen := of_decide_eq_true hlen
    simp only [en_len] at hlen
    subst hlen
    simp only [en_st] at hs
    split at hs
    · rename_i ha
      cases hs
      have ok : (if a = 1 then decide (en_w cc = some (.constant I.1.cls n (Int32.ofNat b))) else decide (b < 1000) && decide ((en_str[b]?).map (fun q => (q.1, q.2.1)) = some (I.1.cls, n))) = true := ok
      rw [if_pos ha] at ok
      exact lv_ldc hx hb hown (hts _ (en_in (of_decide_eq_true ok) rfl)) hd (kk _ _ _ _ _ hl hr)
    · rename_i ha
      cases hs
      have ok : (if a = 1 then decide (en_w cc = some (.constant I.1.cls n (Int32.ofNat b))) else decide (b < 1000) && decide ((en_str[b]?).map (fun q => (q.1, q.2.1)) = some (I.1.cls, n))) = true := ok
      rw [if_neg ha] at ok
      simp only [Bool.and_eq_true, decide_eq_true_eq] at ok
      obtain ⟨hb1, hb2⟩ := ok
      cases hstr : en_str[b]? with
      | none => rw [hstr] at hb2; cases hb2
      | some w =>
        obtain ⟨w1, w2, w3⟩ := w
        rw [hstr] at hb2
        cases hb2
        have hV := hK.2.2.2.2.1 b _ hstr
        refine va_ldcS hx hb hown hV hd ?_
        have e1 : en_cv G (.float (UInt32.ofNat (b + 1))) = .ref (G.2.2.2 (b + 1)) := by
          show Value.ref (G.2.2.2 (UInt32.ofNat (b + 1)).toNat) = _
          rw [UInt32.toNat_ofNat_of_lt' (by show b + 1 < 4294967296; omega)]
        have k1 := kk _ _ _ _ _ hl hr
        dsimp only at k1
        rw [List.map_cons, e1] at k1
        exact k1
  | ldc_w n =>
    simp only [en_lnok] at hlen
    replace hlen := of_decide_eq_true hlen
    simp only [en_len] at hlen
    subst hlen
    simp only [en_st, Option.some.injEq] at hs
    subst hs
    have ok : decide (en_w cc = some (.constant I.1.cls n (Int32.ofNat b))) = true := ok
    exact lv_ldcw hx hb hown (hts _ (en_in (of_decide_eq_true ok) rfl)) hd (kk _ _ _ _ _ hl hr)
  | ldc2_w n =>
    simp only [en_lnok] at hlen
    replace hlen := of_decide_eq_true hlen
    simp only [en_len] at hlen
    subst hlen
    simp only [en_st, Option.some.injEq] at hs
    subst hs
    have ok : decide (en_w cc = some (.constantLong I.1.cls n (Int64.ofNat b))) = true := ok
    exact lv_ldc2 hx hb hown (hts _ (en_in (of_decide_eq_true ok) rfl)) hd (kk _ _ _ _ _ hl hr)
  | iload_n k =>
    simp only [en_lnok] at hlen
    replace hlen := of_decide_eq_true hlen
    simp only [en_len] at hlen
    exact en_s_ldin hd hlen hs Y0 kk
  | iload k =>
    simp only [en_lnok] at hlen
    replace hlen := of_decide_eq_true hlen
    simp only [en_len] at hlen
    exact en_s_ldi hd hlen hs Y0 kk
  | lload_n k =>
    simp only [en_lnok] at hlen
    replace hlen := of_decide_eq_true hlen
    simp only [en_len] at hlen
    exact en_s_ldln hd hlen hs Y0 kk
  | lload k =>
    simp only [en_lnok] at hlen
    replace hlen := of_decide_eq_true hlen
    simp only [en_len] at hlen
    exact en_s_ldl hd hlen hs Y0 kk
  | aload_n k =>
    simp only [en_lnok] at hlen
    replace hlen := of_decide_eq_true hlen
    simp only [en_len] at hlen
    exact en_s_ldan hd hlen hs Y0 kk
  | aload k =>
    simp only [en_lnok] at hlen
    replace hlen := of_decide_eq_true hlen
    simp only [en_len] at hlen
    exact en_s_lda hd hlen hs Y0 kk
  | istore_n k =>
    simp only [en_lnok] at hlen
    replace hlen := of_decide_eq_true hlen
    simp only [en_len] at hlen
    simp only [en_okw] at ok
    exact en_s_stin hd hlen (of_decide_eq_true ok) hs Y0 kk
  | istore k =>
    simp only [en_lnok] at hlen
    replace hlen := of_decide_eq_true hlen
    simp only [en_len] at hlen
    simp only [en_okw] at ok
    exact en_s_sti hd hlen (of_decide_eq_true ok) hs Y0 kk
  | lstore_n k =>
    simp only [en_lnok] at hlen
    replace hlen := of_decide_eq_true hlen
    simp only [en_len] at hlen
    simp only [en_okw] at ok
    exact en_s_stln hd hlen (of_decide_eq_true ok) hs Y0 kk
  | lstore k =>
    simp only [en_lnok] at hlen
    replace hlen := of_decide_eq_true hlen
    simp only [en_len] at hlen
    simp only [en_okw] at ok
    exact en_s_stl hd hlen (of_decide_eq_true ok) hs Y0 kk
  | astore_n k =>
    simp only [en_lnok] at hlen
    replace hlen := of_decide_eq_true hlen
    simp only [en_len] at hlen
    simp only [en_okw] at ok
    exact en_s_stan hd hlen (of_decide_eq_true ok) hs Y0 kk
  | astore k =>
    simp only [en_lnok] at hlen
    replace hlen := of_decide_eq_true hlen
    simp only [en_len] at hlen
    simp only [en_okw] at ok
    exact en_s_sta hd hlen (of_decide_eq_true ok) hs Y0 kk
  | iinc k n =>
    simp only [en_lnok] at hlen
    replace hlen := of_decide_eq_true hlen
    simp only [en_len] at hlen
    subst hlen
    have ok : decide (k < I.2.2.1) = true := ok
    simp only [en_st] at hs
    split at hs
    · rename_i x hg
      cases hs
      obtain ⟨kx, hkx⟩ := List.getElem?_of_mem (en_get_mem hg)
      exact lv_iinc hx hb hd hl (k := kx) (x := x) (by rw [List.getElem?_map, hkx]; rfl) rfl (of_decide_eq_true ok) (en_put1_map G k (.int (x + Int32.ofInt n)) l) (fun ls' hl' => kk _ _ _ _ _ hl' hr)
    · cases hs
  | iadd =>
    simp only [en_lnok] at hlen
    replace hlen := of_decide_eq_true hlen
    simp only [en_len] at hlen
    subst hlen
    simp only [en_st] at hs
    unfold en_i2 at hs
    split at hs
    · cases hs
      exact lv_iadd hx hb hd (kk _ _ _ _ _ hl hr)
    · cases hs
  | isub =>
    simp only [en_lnok] at hlen
    replace hlen := of_decide_eq_true hlen
    simp only [en_len] at hlen
    subst hlen
    simp only [en_st] at hs
    unfold en_i2 at hs
    split at hs
    · cases hs
      exact lv_isub hx hb hd (kk _ _ _ _ _ hl hr)
    · cases hs
  | imul =>
    simp only [en_lnok] at hlen
    replace hlen := of_decide_eq_true hlen
    simp only [en_len] at hlen
    subst hlen
    simp only [en_st] at hs
    unfold en_i2 at hs
    split at hs
    · cases hs
      exact lv_imul hx hb hd (kk _ _ _ _ _ hl hr)
    · cases hs
  | iand =>
    simp only [en_lnok] at hlen
    replace hlen := of_decide_eq_true hlen
    simp only [en_len] at hlen
    subst hlen
    simp only [en_st] at hs
    unfold en_i2 at hs
    split at hs
    · cases hs
      exact lv_iand hx hb hd (kk _ _ _ _ _ hl hr)
    · cases hs
  | ior =>
    simp only [en_lnok] at hlen
    replace hlen := of_decide_eq_true hlen
    simp only [en_len] at hlen
    subst hlen
    simp only [en_st] at hs
    unfold en_i2 at hs
    split at hs
    · cases hs
      exact lv_ior hx hb hd (kk _ _ _ _ _ hl hr)
    · cases hs
  | ishl =>
    simp only [en_lnok] at hlen
    replace hlen := of_decide_eq_true hlen
    simp only [en_len] at hlen
    subst hlen
    simp only [en_st] at hs
    unfold en_i2 at hs
    split at hs
    · cases hs
      exact lv_ishl hx hb hd (kk _ _ _ _ _ hl hr)
    · cases hs
  | ishr =>
    simp only [en_lnok] at hlen
    replace hlen := of_decide_eq_true hlen
    simp only [en_len] at hlen
    subst hlen
    simp only [en_st] at hs
    unfold en_i2 at hs
    split at hs
    · cases hs
      exact lv_ishr hx hb hd (kk _ _ _ _ _ hl hr)
    · cases hs
  | iushr =>
    simp only [en_lnok] at hlen
    replace hlen := of_decide_eq_true hlen
    simp only [en_len] at hlen
    subst hlen
    simp only [en_st] at hs
    unfold en_i2 at hs
    split at hs
    · cases hs
      exact lv_iushr hx hb hd rfl (kk _ _ _ _ _ hl hr)
    · cases hs
  | idiv =>
    simp only [en_lnok] at hlen
    replace hlen := of_decide_eq_true hlen
    simp only [en_len] at hlen
    subst hlen
    simp only [en_st] at hs
    unfold en_i2d at hs
    split at hs
    · split at hs
      · cases hs
      · rename_i hy
        cases hs
        exact lv_idiv hx hb hd hy (kk _ _ _ _ _ hl hr)
    · cases hs
  | irem =>
    simp only [en_lnok] at hlen
    replace hlen := of_decide_eq_true hlen
    simp only [en_len] at hlen
    subst hlen
    simp only [en_st] at hs
    unfold en_i2d at hs
    split at hs
    · split at hs
      · cases hs
      · rename_i hy
        cases hs
        exact lv_irem hx hb hd hy (kk _ _ _ _ _ hl hr)
    · cases hs
  | ladd =>
    simp only [en_lnok] at hlen
    replace hlen := of_decide_eq_true hlen
    simp only [en_len] at hlen
    subst hlen
    simp only [en_st] at hs
    unfold en_l2 at hs
    split at hs
    · cases hs
      exact lv_ladd hx hb hd (kk _ _ _ _ _ hl hr)
    · cases hs
  | lsub =>
    simp only [en_lnok] at hlen
    replace hlen := of_decide_eq_true hlen
    simp only [en_len] at hlen
    subst hlen
    simp only [en_st] at hs
    unfold en_l2 at hs
    split at hs
    · cases hs
      exact lv_lsub hx hb hd (kk _ _ _ _ _ hl hr)
    · cases hs
  | lmul =>
    simp only [en_lnok] at hlen
    replace hlen := of_decide_eq_true hlen
    simp only [en_len] at hlen
    subst hlen
    simp only [en_st] at hs
    unfold en_l2 at hs
    split at hs
    · cases hs
      exact lv_lmul hx hb hd (kk _ _ _ _ _ hl hr)
    · cases hs
  | ldiv =>
    simp only [en_lnok] at hlen
    replace hlen := of_decide_eq_true hlen
    simp only [en_len] at hlen
    subst hlen
    simp only [en_st] at hs
    unfold en_l2d at hs
    split at hs
    · split at hs
      · cases hs
      · rename_i hy
        cases hs
        exact lv_ldiv hx hb hd hy (kk _ _ _ _ _ hl hr)
    · cases hs
  | lrem =>
    simp only [en_lnok] at hlen
    replace hlen := of_decide_eq_true hlen
    simp only [en_len] at hlen
    subst hlen
    simp only [en_st] at hs
    unfold en_l2d at hs
    split at hs
    · split at hs
      · cases hs
      · rename_i hy
        cases hs
        exact lv_lrem hx hb hd hy (kk _ _ _ _ _ hl hr)
    · cases hs
  | ineg =>
    simp only [en_lnok] at hlen
    replace hlen := of_decide_eq_true hlen
    simp only [en_len] at hlen
    subst hlen
    simp only [en_st] at hs
    split at hs
    · cases hs
      exact lv_ineg hx hb hd (kk _ _ _ _ _ hl hr)
    · cases hs
  | i2l =>
    simp only [en_lnok] at hlen
    replace hlen := of_decide_eq_true hlen
    simp only [en_len] at hlen
    subst hlen
    simp only [en_st] at hs
    split at hs
    · cases hs
      exact lv_i2l hx hb hd rfl (kk _ _ _ _ _ hl hr)
    · cases hs
  | l2i =>
    simp only [en_lnok] at hlen
    replace hlen := of_decide_eq_true hlen
    simp only [en_len] at hlen
    subst hlen
    simp only [en_st] at hs
    split at hs
    · cases hs
      exact lv_l2i hx hb hd rfl (kk _ _ _ _ _ hl hr)
    · cases hs
  | lcmp =>
    simp only [en_lnok] at hlen
    replace hlen := of_decide_eq_true hlen
    simp only [en_len] at hlen
    subst hlen
    simp only [en_st] at hs
    split at hs
    · cases hs
      exact W.lcmp hx hb hd (kk _ _ _ _ _ hl hr)
    · cases hs
  | dup =>
    simp only [en_lnok] at hlen
    replace hlen := of_decide_eq_true hlen
    simp only [en_len] at hlen
    subst hlen
    simp only [en_st] at hs
    split at hs
    · split at hs
      · rename_i hv
        cases hs
        exact lv_dup hx hb hd (by rw [en_cat]; exact hv) (kk _ _ _ _ _ hl hr)
      · cases hs
    · cases hs
  | pop =>
    simp only [en_lnok] at hlen
    replace hlen := of_decide_eq_true hlen
    simp only [en_len] at hlen
    subst hlen
    simp only [en_st] at hs
    split at hs
    · split at hs
      · rename_i hv
        cases hs
        exact lv_pop hx hb hd (by rw [en_cat]; exact hv) (kk _ _ _ _ _ hl hr)
      · cases hs
    · cases hs
  | dup2 =>
    simp only [en_lnok] at hlen
    replace hlen := of_decide_eq_true hlen
    simp only [en_len] at hlen
    subst hlen
    simp only [en_st] at hs
    split at hs
    · split at hs
      · rename_i hv
        cases hs
        exact lv_dup2_11 hx hb hd (by rw [en_cat]; exact hv.1) (by rw [en_cat]; exact hv.2) (kk _ _ _ _ _ hl hr)
      · cases hs
    · cases hs
  | getfield n =>
    simp only [en_lnok] at hlen
    replace hlen := of_decide_eq_true hlen
    simp only [en_len] at hlen
    exact en_s_gf ok hd hlen hs Y0 kk
  | putfield n =>
    simp only [en_lnok] at hlen
    replace hlen := of_decide_eq_true hlen
    simp only [en_len] at hlen
    exact en_s_pf ok hd hlen hs Y0 kk
  | iaload =>
    simp only [en_lnok] at hlen
    replace hlen := of_decide_eq_true hlen
    simp only [en_len] at hlen
    exact en_s_ial hd hlen hs Y0 kk
  | baload =>
    simp only [en_lnok] at hlen
    replace hlen := of_decide_eq_true hlen
    simp only [en_len] at hlen
    exact en_s_bal hd hlen hs Y0 kk
  | laload =>
    simp only [en_lnok] at hlen
    replace hlen := of_decide_eq_true hlen
    simp only [en_len] at hlen
    exact en_s_lal hd hlen hs Y0 kk
  | aaload =>
    simp only [en_lnok] at hlen
    replace hlen := of_decide_eq_true hlen
    simp only [en_len] at hlen
    exact en_s_aal hd hlen hs Y0 kk
  | iastore =>
    simp only [en_lnok] at hlen
    replace hlen := of_decide_eq_true hlen
    simp only [en_len] at hlen
    exact en_s_iast hd hlen hs Y0 kk
  | bastore =>
    simp only [en_lnok] at hlen
    replace hlen := of_decide_eq_true hlen
    simp only [en_len] at hlen
    exact en_s_bast hd hlen hs Y0 kk
  | lastore =>
    simp only [en_lnok] at hlen
    replace hlen := of_decide_eq_true hlen
    simp only [en_len] at hlen
    exact en_s_last hd hlen hs Y0 kk
  | aastore =>
    simp only [en_lnok] at hlen
    replace hlen := of_decide_eq_true hlen
    simp only [en_len] at hlen
    exact en_s_aast hd hlen hs Y0 kk
  | arraylength =>
    simp only [en_lnok] at hlen
    replace hlen := of_decide_eq_true hlen
    simp only [en_len] at hlen
    exact en_s_alen hd hlen hs Y0 kk
  | anewarray n =>
    simp only [en_lnok] at hlen
    replace hlen := of_decide_eq_true hlen
    simp only [en_len] at hlen
    exact en_s_newq ok hd hlen hs Y0 kk
  | invokestatic n =>
    simp only [en_lnok] at hlen
    replace hlen := of_decide_eq_true hlen
    simp only [en_len] at hlen
    exact en_s_nat h9 ok hd hlen hs Y0 kk
  | invokespecial n =>
    simp only [en_lnok] at hlen
    replace hlen := of_decide_eq_true hlen
    simp only [en_len] at hlen
    exact en_s_obj h9 ok hd hlen hs Y0 kk
  | invokevirtual n =>
    simp only [en_lnok] at hlen
    replace hlen := of_decide_eq_true hlen
    simp only [en_len] at hlen
    exact en_s_vir h9 ok hd hlen hs Y0 kk
  | new n =>
    simp only [en_lnok] at hlen
    replace hlen := of_decide_eq_true hlen
    simp only [en_len] at hlen
    simp only [en_st, Option.some.injEq] at hs
    exact en_s_new ok hd hlen hs.symm Y0 kk
  | newarray t =>
    simp only [en_lnok] at hlen
    replace hlen := of_decide_eq_true hlen
    simp only [en_len] at hlen
    cases t with
    | int =>
      change en_newa 0 (fun n => .inl (List.replicate n (0 : Int32))) l st h = some q at hs
      exact en_s_newa (at_ := .int) (t := 0) (x := fun n => .inl (List.replicate n (0 : Int32))) (by decide) rfl en_aI (by decide) (fun n => by
        show vp_cell _ ((List.replicate n (0 : Int32)).length, .inl (fun j => (List.replicate n (0 : Int32)).getD j 0)) = _
        rw [List.length_replicate]
        exact (en_arrI _ (fun j hj => by rw [List.getD_eq_getElem?_getD, List.getElem?_replicate, if_pos hj]; rfl)).symm) hd hlen hs Y0 kk
    | boolean =>
      change en_newa 2 (fun n => .inl (List.replicate n (0 : Int32))) l st h = some q at hs
      exact en_s_newa (at_ := .boolean) (t := 2) (x := fun n => .inl (List.replicate n (0 : Int32))) (by decide) rfl en_aZ (by decide) (fun n => by
        show vp_cell _ ((List.replicate n (0 : Int32)).length, .inl (fun j => (List.replicate n (0 : Int32)).getD j 0)) = _
        rw [List.length_replicate]
        exact (en_arrI _ (fun j hj => by rw [List.getD_eq_getElem?_getD, List.getElem?_replicate, if_pos hj]; rfl)).symm) hd hlen hs Y0 kk
    | long =>
      change en_newa 1 (fun n => .inr (.inl (List.replicate n (0 : Int64)))) l st h = some q at hs
      exact en_s_newa (at_ := .long) (t := 1) (x := fun n => .inr (.inl (List.replicate n (0 : Int64)))) (by decide) rfl en_aJ (by decide) (fun n => by
        show vp_cell _ ((List.replicate n (0 : Int64)).length, .inr (.inl (fun j => (List.replicate n (0 : Int64)).getD j 0))) = _
        rw [List.length_replicate]
        exact (en_arrL _ (fun j hj => by rw [List.getD_eq_getElem?_getD, List.getElem?_replicate, if_pos hj]; rfl)).symm) hd hlen hs Y0 kk
    | _ => cases hs
  | _ => cases hs
end EN2
