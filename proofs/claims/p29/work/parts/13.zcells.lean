def en_pre (a : Nat → en_E) : Nat → List en_E → List en_E
  | 0, M => M
  | n + 1, M => a n :: en_pre a n M
theorem hp_Xl : hp_X.length = 231 := by decide +kernel
theorem en_rcI {J : en_I} {p ci : Nat} {fs as : List Value} {g : List en_E} {N : Nat} (hp : g[p]? = some (.inr (ci, fs))) (hJ : Nat.beq ci J.2.2.2.2.1 = true) : en_rc J (.ref p :: as) (g, N) = true := by
  unfold en_rc
  simp only [hp]
  exact hJ
theorem en_shr0 (x : Int32) : x >>> (0 &&& 31) = x := by
  have h : (0 : Int32) &&& 31 = 0 := by decide
  rw [h]
  exact Int32.toInt_inj.mp (by simp)
theorem en_gs_ne {g : List en_E} {p q : Nat} {e x : en_E} (h : q ≠ p) (k : g[p]? = some x) : (g.set q e)[p]? = some x := by
  rw [List.getElem?_set, if_neg h]
  exact k
theorem en_gs_eq {g : List en_E} {p : Nat} {e x : en_E} (k : g[p]? = some x) : (g.set p e)[p]? = some e := by
  rw [List.getElem?_set, if_pos rfl, if_pos (List.getElem?_eq_some_iff.mp k).1]
theorem en_gr1 {α : Type} {x : α} {n i : Nat} (h : Nat.ble (i + 1) n = true) : (List.replicate n x)[i]? = some x := by
  rw [List.getElem?_replicate]
  exact if_pos (Nat.le_of_ble_eq_true h)
theorem en_gr2 {α : Type} {P : List α} {x : α} {n i : Nat} (k : Nat) (hk : P.length = k) (h : Nat.ble k i = true) (h2 : Nat.ble (i - k + 1) n = true) : (P ++ List.replicate n x)[i]? = some x := by
  rw [List.getElem?_append_right (by rw [hk]; exact Nat.le_of_ble_eq_true h), hk]
  exact en_gr1 h2
theorem en_sd0 {g : List en_E} {p : Nat} {a c : en_E} : (g.set p a).set p c = g.set p c := List.set_set ..
theorem en_sdS {g G : List en_E} {p q : Nat} {x c : en_E} (hq : q ≠ p) (h : g.set p c = G) : (g.set q x).set p c = G.set q x := by
  rw [← h]
  exact List.set_comm _ _ hq
theorem Ar.hp {d : Nat} {xs : Option (List Int32)} {rt : Option FieldType} {bs : en_Bs} {r : List en_Op} {pc : Nat} {l : en_L} {st : List Value} {g G : List en_E} {N : Nat} {Ph : Option Value → en_H → Prop} (e : g = G) (k : Ar d xs rt bs r (pc, l, st, (G, N)) Ph) : Ar d xs rt bs r (pc, l, st, (g, N)) Ph := by
  rw [e]
  exact k
def IsX (g : List en_E) : Prop := ∃ A : List en_E, A.length = 231 ∧ g = A ++ hp_M
theorem IsX.base : IsX (hp_X ++ hp_M) := ⟨hp_X, hp_Xl, rfl⟩
theorem IsX.set {g : List en_E} {k : Nat} {e : en_E} (h : IsX g) (hk : k < 231) : IsX (g.set k e) := by
  obtain ⟨A, hA, rfl⟩ := h
  refine ⟨A.set k e, by rw [List.length_set, hA], ?_⟩
  rw [List.set_append_left _ _ (by omega)]
theorem hp_Ml : hp_M.length = 28 := by decide +kernel
theorem en_pre_len (a : Nat → en_E) : ∀ (n : Nat) (M : List en_E), (en_pre a n M).length = n + M.length
  | 0, M => (Nat.zero_add _).symm
  | n + 1, M => by
    unfold en_pre
    rw [List.length_cons, en_pre_len a n M]
    omega
theorem en_prel (a : Nat → en_E) : (en_pre a 231 hp_M).length = 259 := (en_pre_len a 231 hp_M).trans (by rw [hp_Ml])
theorem en_lset {g : List en_E} {N k : Nat} {e : en_E} (h : g.length = N) : (g.set k e).length = N := by
  rw [List.length_set]
  exact h
theorem en_pre_congr {a b : Nat → en_E} : ∀ {n : Nat} {M : List en_E}, (∀ k, k < n → a k = b k) → en_pre a n M = en_pre b n M
  | 0, M, h => rfl
  | n + 1, M, h => by
    unfold en_pre
    rw [h n (Nat.lt_succ_self n), en_pre_congr (fun k hk => h k (Nat.lt_succ_of_lt hk))]
theorem en_pre_of (M : List en_E) : ∀ A : List en_E, ∃ a : Nat → en_E, A ++ M = en_pre a A.length M
  | [] => ⟨fun _ => .inr (0, []), rfl⟩
  | e :: A => by
    obtain ⟨a, ha⟩ := en_pre_of M A
    refine ⟨fun k => if k = A.length then e else a k, ?_⟩
    rw [List.length_cons, List.cons_append]
    unfold en_pre
    rw [if_pos rfl, ha, en_pre_congr (fun k hk => (if_neg (Nat.ne_of_lt hk)).symm)]
theorem IsX.pre {g : List en_E} (h : IsX g) : ∃ a : Nat → en_E, g = en_pre a 231 hp_M := by
  obtain ⟨A, hA, rfl⟩ := h
  obtain ⟨a, ha⟩ := en_pre_of hp_M A
  exact ⟨a, by rw [ha, hA]⟩
set_option maxRecDepth 100000 in
theorem hx_0 : (hp_X ++ hp_M)[0]? = some (.inr (10, [.ref 1, .ref 58, .ref 173, .ref 174, .ref 176, .ref 184, .ref 188, .ref 204, .ref 220, .ref 222, .ref 223, .ref 228, .ref 229, .ref 230, .int 0, .int 0, .int 0, .int 0])) := rfl
set_option maxRecDepth 100000 in
theorem hx_1 : (hp_X ++ hp_M)[1]? = some (.inr (0, [.int 0, .ref 2, .ref 3, .ref 4, .int 0, .ref 5, .int 0, .ref 6, .ref 7, .int (-1), .int 60, .int 2, .int 0, .ref 14, .ref 15])) := rfl
set_option maxRecDepth 100000 in
theorem hx_2 : (hp_X ++ hp_M)[2]? = some (.inl (0, .inl (List.replicate 12 0))) := rfl
set_option maxRecDepth 100000 in
theorem hx_3 : (hp_X ++ hp_M)[3]? = some (.inl (0, .inl (List.replicate 12 0))) := rfl
set_option maxRecDepth 100000 in
theorem hx_4 : (hp_X ++ hp_M)[4]? = some (.inl (0, .inl (List.replicate 12 0))) := rfl
set_option maxRecDepth 100000 in
theorem hx_5 : (hp_X ++ hp_M)[5]? = some (.inl (0, .inl (List.replicate 48 0))) := rfl
set_option maxRecDepth 100000 in
theorem hx_6 : (hp_X ++ hp_M)[6]? = some (.inl (3, .inr (.inr ([some 16, some 23, some 30, some 37, some 44, some 51])))) := rfl
set_option maxRecDepth 100000 in
theorem hx_7 : (hp_X ++ hp_M)[7]? = some (.inr (4, [.int 0, .ref 8, .ref 9, .int 0, .int 0, .ref 10, .ref 11, .ref 12, .ref 13])) := rfl
set_option maxRecDepth 100000 in
theorem hx_8 : (hp_X ++ hp_M)[8]? = some (.inl (0, .inl (List.replicate 400 0))) := rfl
set_option maxRecDepth 100000 in
theorem hx_9 : (hp_X ++ hp_M)[9]? = some (.inl (0, .inl (List.replicate 400 0))) := rfl
set_option maxRecDepth 100000 in
theorem hx_10 : (hp_X ++ hp_M)[10]? = some (.inl (0, .inl (List.replicate 12 0))) := rfl
set_option maxRecDepth 100000 in
theorem hx_11 : (hp_X ++ hp_M)[11]? = some (.inl (0, .inl (List.replicate 12 0))) := rfl
set_option maxRecDepth 100000 in
theorem hx_12 : (hp_X ++ hp_M)[12]? = some (.inl (0, .inl (List.replicate 12 0))) := rfl
set_option maxRecDepth 100000 in
theorem hx_13 : (hp_X ++ hp_M)[13]? = some (.inl (0, .inl (List.replicate 12 0))) := rfl
set_option maxRecDepth 100000 in
theorem hx_14 : (hp_X ++ hp_M)[14]? = some (.inl (0, .inl (List.replicate 8 0))) := rfl
set_option maxRecDepth 100000 in
theorem hx_15 : (hp_X ++ hp_M)[15]? = some (.inl (0, .inl (List.replicate 8 0))) := rfl
set_option maxRecDepth 100000 in
theorem hx_16 : (hp_X ++ hp_M)[16]? = some (.inr (4, [.int 0, .ref 17, .ref 18, .int 0, .int 0, .ref 19, .ref 20, .ref 21, .ref 22])) := rfl
set_option maxRecDepth 100000 in
theorem hx_17 : (hp_X ++ hp_M)[17]? = some (.inl (0, .inl (List.replicate 400 0))) := rfl
set_option maxRecDepth 100000 in
theorem hx_18 : (hp_X ++ hp_M)[18]? = some (.inl (0, .inl (List.replicate 400 0))) := rfl
set_option maxRecDepth 100000 in
theorem hx_19 : (hp_X ++ hp_M)[19]? = some (.inl (0, .inl (List.replicate 12 0))) := rfl
set_option maxRecDepth 100000 in
theorem hx_20 : (hp_X ++ hp_M)[20]? = some (.inl (0, .inl (List.replicate 12 0))) := rfl
set_option maxRecDepth 100000 in
theorem hx_21 : (hp_X ++ hp_M)[21]? = some (.inl (0, .inl (List.replicate 12 0))) := rfl
set_option maxRecDepth 100000 in
theorem hx_22 : (hp_X ++ hp_M)[22]? = some (.inl (0, .inl (List.replicate 12 0))) := rfl
set_option maxRecDepth 100000 in
theorem hx_23 : (hp_X ++ hp_M)[23]? = some (.inr (4, [.int 0, .ref 24, .ref 25, .int 0, .int 0, .ref 26, .ref 27, .ref 28, .ref 29])) := rfl
set_option maxRecDepth 100000 in
theorem hx_24 : (hp_X ++ hp_M)[24]? = some (.inl (0, .inl (List.replicate 400 0))) := rfl
set_option maxRecDepth 100000 in
theorem hx_25 : (hp_X ++ hp_M)[25]? = some (.inl (0, .inl (List.replicate 400 0))) := rfl
set_option maxRecDepth 100000 in
theorem hx_26 : (hp_X ++ hp_M)[26]? = some (.inl (0, .inl (List.replicate 12 0))) := rfl
set_option maxRecDepth 100000 in
theorem hx_27 : (hp_X ++ hp_M)[27]? = some (.inl (0, .inl (List.replicate 12 0))) := rfl
set_option maxRecDepth 100000 in
theorem hx_28 : (hp_X ++ hp_M)[28]? = some (.inl (0, .inl (List.replicate 12 0))) := rfl
set_option maxRecDepth 100000 in
theorem hx_29 : (hp_X ++ hp_M)[29]? = some (.inl (0, .inl (List.replicate 12 0))) := rfl
set_option maxRecDepth 100000 in
theorem hx_30 : (hp_X ++ hp_M)[30]? = some (.inr (4, [.int 0, .ref 31, .ref 32, .int 0, .int 0, .ref 33, .ref 34, .ref 35, .ref 36])) := rfl
set_option maxRecDepth 100000 in
theorem hx_31 : (hp_X ++ hp_M)[31]? = some (.inl (0, .inl (List.replicate 400 0))) := rfl
set_option maxRecDepth 100000 in
theorem hx_32 : (hp_X ++ hp_M)[32]? = some (.inl (0, .inl (List.replicate 400 0))) := rfl
set_option maxRecDepth 100000 in
theorem hx_33 : (hp_X ++ hp_M)[33]? = some (.inl (0, .inl (List.replicate 12 0))) := rfl
set_option maxRecDepth 100000 in
theorem hx_34 : (hp_X ++ hp_M)[34]? = some (.inl (0, .inl (List.replicate 12 0))) := rfl
set_option maxRecDepth 100000 in
theorem hx_35 : (hp_X ++ hp_M)[35]? = some (.inl (0, .inl (List.replicate 12 0))) := rfl
set_option maxRecDepth 100000 in
theorem hx_36 : (hp_X ++ hp_M)[36]? = some (.inl (0, .inl (List.replicate 12 0))) := rfl
set_option maxRecDepth 100000 in
theorem hx_37 : (hp_X ++ hp_M)[37]? = some (.inr (4, [.int 0, .ref 38, .ref 39, .int 0, .int 0, .ref 40, .ref 41, .ref 42, .ref 43])) := rfl
set_option maxRecDepth 100000 in
theorem hx_38 : (hp_X ++ hp_M)[38]? = some (.inl (0, .inl (List.replicate 400 0))) := rfl
set_option maxRecDepth 100000 in
theorem hx_39 : (hp_X ++ hp_M)[39]? = some (.inl (0, .inl (List.replicate 400 0))) := rfl
set_option maxRecDepth 100000 in
theorem hx_40 : (hp_X ++ hp_M)[40]? = some (.inl (0, .inl (List.replicate 12 0))) := rfl
set_option maxRecDepth 100000 in
theorem hx_41 : (hp_X ++ hp_M)[41]? = some (.inl (0, .inl (List.replicate 12 0))) := rfl
set_option maxRecDepth 100000 in
theorem hx_42 : (hp_X ++ hp_M)[42]? = some (.inl (0, .inl (List.replicate 12 0))) := rfl
set_option maxRecDepth 100000 in
theorem hx_43 : (hp_X ++ hp_M)[43]? = some (.inl (0, .inl (List.replicate 12 0))) := rfl
set_option maxRecDepth 100000 in
theorem hx_44 : (hp_X ++ hp_M)[44]? = some (.inr (4, [.int 0, .ref 45, .ref 46, .int 0, .int 0, .ref 47, .ref 48, .ref 49, .ref 50])) := rfl
set_option maxRecDepth 100000 in
theorem hx_45 : (hp_X ++ hp_M)[45]? = some (.inl (0, .inl (List.replicate 400 0))) := rfl
set_option maxRecDepth 100000 in
theorem hx_46 : (hp_X ++ hp_M)[46]? = some (.inl (0, .inl (List.replicate 400 0))) := rfl
set_option maxRecDepth 100000 in
theorem hx_47 : (hp_X ++ hp_M)[47]? = some (.inl (0, .inl (List.replicate 12 0))) := rfl
set_option maxRecDepth 100000 in
theorem hx_48 : (hp_X ++ hp_M)[48]? = some (.inl (0, .inl (List.replicate 12 0))) := rfl
set_option maxRecDepth 100000 in
theorem hx_49 : (hp_X ++ hp_M)[49]? = some (.inl (0, .inl (List.replicate 12 0))) := rfl
set_option maxRecDepth 100000 in
theorem hx_50 : (hp_X ++ hp_M)[50]? = some (.inl (0, .inl (List.replicate 12 0))) := rfl
set_option maxRecDepth 100000 in
theorem hx_51 : (hp_X ++ hp_M)[51]? = some (.inr (4, [.int 0, .ref 52, .ref 53, .int 0, .int 0, .ref 54, .ref 55, .ref 56, .ref 57])) := rfl
set_option maxRecDepth 100000 in
theorem hx_52 : (hp_X ++ hp_M)[52]? = some (.inl (0, .inl (List.replicate 400 0))) := rfl
set_option maxRecDepth 100000 in
theorem hx_53 : (hp_X ++ hp_M)[53]? = some (.inl (0, .inl (List.replicate 400 0))) := rfl
set_option maxRecDepth 100000 in
theorem hx_54 : (hp_X ++ hp_M)[54]? = some (.inl (0, .inl (List.replicate 12 0))) := rfl
set_option maxRecDepth 100000 in
theorem hx_55 : (hp_X ++ hp_M)[55]? = some (.inl (0, .inl (List.replicate 12 0))) := rfl
set_option maxRecDepth 100000 in
theorem hx_56 : (hp_X ++ hp_M)[56]? = some (.inl (0, .inl (List.replicate 12 0))) := rfl
set_option maxRecDepth 100000 in
theorem hx_57 : (hp_X ++ hp_M)[57]? = some (.inl (0, .inl (List.replicate 12 0))) := rfl
set_option maxRecDepth 100000 in
theorem hx_58 : (hp_X ++ hp_M)[58]? = some (.inl (4, .inr (.inr ([some 59, some 116])))) := rfl
set_option maxRecDepth 100000 in
theorem hx_59 : (hp_X ++ hp_M)[59]? = some (.inr (0, [.int 0, .ref 60, .ref 61, .ref 62, .int 0, .ref 63, .int 0, .ref 64, .ref 65, .int (-1), .int 60, .int 2, .int 0, .ref 72, .ref 73])) := rfl
set_option maxRecDepth 100000 in
theorem hx_60 : (hp_X ++ hp_M)[60]? = some (.inl (0, .inl (List.replicate 12 0))) := rfl
set_option maxRecDepth 100000 in
theorem hx_61 : (hp_X ++ hp_M)[61]? = some (.inl (0, .inl (List.replicate 12 0))) := rfl
set_option maxRecDepth 100000 in
theorem hx_62 : (hp_X ++ hp_M)[62]? = some (.inl (0, .inl (List.replicate 12 0))) := rfl
set_option maxRecDepth 100000 in
theorem hx_63 : (hp_X ++ hp_M)[63]? = some (.inl (0, .inl (List.replicate 48 0))) := rfl
set_option maxRecDepth 100000 in
theorem hx_64 : (hp_X ++ hp_M)[64]? = some (.inl (3, .inr (.inr ([some 74, some 81, some 88, some 95, some 102, some 109])))) := rfl
set_option maxRecDepth 100000 in
theorem hx_65 : (hp_X ++ hp_M)[65]? = some (.inr (4, [.int 0, .ref 66, .ref 67, .int 0, .int 0, .ref 68, .ref 69, .ref 70, .ref 71])) := rfl
set_option maxRecDepth 100000 in
theorem hx_66 : (hp_X ++ hp_M)[66]? = some (.inl (0, .inl (List.replicate 400 0))) := rfl
set_option maxRecDepth 100000 in
theorem hx_67 : (hp_X ++ hp_M)[67]? = some (.inl (0, .inl (List.replicate 400 0))) := rfl
set_option maxRecDepth 100000 in
theorem hx_68 : (hp_X ++ hp_M)[68]? = some (.inl (0, .inl (List.replicate 12 0))) := rfl
set_option maxRecDepth 100000 in
theorem hx_69 : (hp_X ++ hp_M)[69]? = some (.inl (0, .inl (List.replicate 12 0))) := rfl
set_option maxRecDepth 100000 in
theorem hx_70 : (hp_X ++ hp_M)[70]? = some (.inl (0, .inl (List.replicate 12 0))) := rfl
set_option maxRecDepth 100000 in
theorem hx_71 : (hp_X ++ hp_M)[71]? = some (.inl (0, .inl (List.replicate 12 0))) := rfl
set_option maxRecDepth 100000 in
theorem hx_72 : (hp_X ++ hp_M)[72]? = some (.inl (0, .inl (List.replicate 8 0))) := rfl
set_option maxRecDepth 100000 in
theorem hx_73 : (hp_X ++ hp_M)[73]? = some (.inl (0, .inl (List.replicate 8 0))) := rfl
set_option maxRecDepth 100000 in
theorem hx_74 : (hp_X ++ hp_M)[74]? = some (.inr (4, [.int 0, .ref 75, .ref 76, .int 0, .int 0, .ref 77, .ref 78, .ref 79, .ref 80])) := rfl
set_option maxRecDepth 100000 in
theorem hx_75 : (hp_X ++ hp_M)[75]? = some (.inl (0, .inl (List.replicate 400 0))) := rfl
set_option maxRecDepth 100000 in
theorem hx_76 : (hp_X ++ hp_M)[76]? = some (.inl (0, .inl (List.replicate 400 0))) := rfl
set_option maxRecDepth 100000 in
theorem hx_77 : (hp_X ++ hp_M)[77]? = some (.inl (0, .inl (List.replicate 12 0))) := rfl
set_option maxRecDepth 100000 in
theorem hx_78 : (hp_X ++ hp_M)[78]? = some (.inl (0, .inl (List.replicate 12 0))) := rfl
set_option maxRecDepth 100000 in
theorem hx_79 : (hp_X ++ hp_M)[79]? = some (.inl (0, .inl (List.replicate 12 0))) := rfl
set_option maxRecDepth 100000 in
theorem hx_80 : (hp_X ++ hp_M)[80]? = some (.inl (0, .inl (List.replicate 12 0))) := rfl
set_option maxRecDepth 100000 in
theorem hx_81 : (hp_X ++ hp_M)[81]? = some (.inr (4, [.int 0, .ref 82, .ref 83, .int 0, .int 0, .ref 84, .ref 85, .ref 86, .ref 87])) := rfl
set_option maxRecDepth 100000 in
theorem hx_82 : (hp_X ++ hp_M)[82]? = some (.inl (0, .inl (List.replicate 400 0))) := rfl
set_option maxRecDepth 100000 in
theorem hx_83 : (hp_X ++ hp_M)[83]? = some (.inl (0, .inl (List.replicate 400 0))) := rfl
set_option maxRecDepth 100000 in
theorem hx_84 : (hp_X ++ hp_M)[84]? = some (.inl (0, .inl (List.replicate 12 0))) := rfl
set_option maxRecDepth 100000 in
theorem hx_85 : (hp_X ++ hp_M)[85]? = some (.inl (0, .inl (List.replicate 12 0))) := rfl
set_option maxRecDepth 100000 in
theorem hx_86 : (hp_X ++ hp_M)[86]? = some (.inl (0, .inl (List.replicate 12 0))) := rfl
set_option maxRecDepth 100000 in
theorem hx_87 : (hp_X ++ hp_M)[87]? = some (.inl (0, .inl (List.replicate 12 0))) := rfl
set_option maxRecDepth 100000 in
theorem hx_88 : (hp_X ++ hp_M)[88]? = some (.inr (4, [.int 0, .ref 89, .ref 90, .int 0, .int 0, .ref 91, .ref 92, .ref 93, .ref 94])) := rfl
set_option maxRecDepth 100000 in
theorem hx_89 : (hp_X ++ hp_M)[89]? = some (.inl (0, .inl (List.replicate 400 0))) := rfl
set_option maxRecDepth 100000 in
theorem hx_90 : (hp_X ++ hp_M)[90]? = some (.inl (0, .inl (List.replicate 400 0))) := rfl
set_option maxRecDepth 100000 in
theorem hx_91 : (hp_X ++ hp_M)[91]? = some (.inl (0, .inl (List.replicate 12 0))) := rfl
set_option maxRecDepth 100000 in
theorem hx_92 : (hp_X ++ hp_M)[92]? = some (.inl (0, .inl (List.replicate 12 0))) := rfl
set_option maxRecDepth 100000 in
theorem hx_93 : (hp_X ++ hp_M)[93]? = some (.inl (0, .inl (List.replicate 12 0))) := rfl
set_option maxRecDepth 100000 in
theorem hx_94 : (hp_X ++ hp_M)[94]? = some (.inl (0, .inl (List.replicate 12 0))) := rfl
set_option maxRecDepth 100000 in
theorem hx_95 : (hp_X ++ hp_M)[95]? = some (.inr (4, [.int 0, .ref 96, .ref 97, .int 0, .int 0, .ref 98, .ref 99, .ref 100, .ref 101])) := rfl
set_option maxRecDepth 100000 in
theorem hx_96 : (hp_X ++ hp_M)[96]? = some (.inl (0, .inl (List.replicate 400 0))) := rfl
set_option maxRecDepth 100000 in
theorem hx_97 : (hp_X ++ hp_M)[97]? = some (.inl (0, .inl (List.replicate 400 0))) := rfl
set_option maxRecDepth 100000 in
theorem hx_98 : (hp_X ++ hp_M)[98]? = some (.inl (0, .inl (List.replicate 12 0))) := rfl
set_option maxRecDepth 100000 in
theorem hx_99 : (hp_X ++ hp_M)[99]? = some (.inl (0, .inl (List.replicate 12 0))) := rfl
set_option maxRecDepth 100000 in
theorem hx_100 : (hp_X ++ hp_M)[100]? = some (.inl (0, .inl (List.replicate 12 0))) := rfl
set_option maxRecDepth 100000 in
theorem hx_101 : (hp_X ++ hp_M)[101]? = some (.inl (0, .inl (List.replicate 12 0))) := rfl
set_option maxRecDepth 100000 in
theorem hx_102 : (hp_X ++ hp_M)[102]? = some (.inr (4, [.int 0, .ref 103, .ref 104, .int 0, .int 0, .ref 105, .ref 106, .ref 107, .ref 108])) := rfl
set_option maxRecDepth 100000 in
theorem hx_103 : (hp_X ++ hp_M)[103]? = some (.inl (0, .inl (List.replicate 400 0))) := rfl
set_option maxRecDepth 100000 in
theorem hx_104 : (hp_X ++ hp_M)[104]? = some (.inl (0, .inl (List.replicate 400 0))) := rfl
set_option maxRecDepth 100000 in
theorem hx_105 : (hp_X ++ hp_M)[105]? = some (.inl (0, .inl (List.replicate 12 0))) := rfl
set_option maxRecDepth 100000 in
theorem hx_106 : (hp_X ++ hp_M)[106]? = some (.inl (0, .inl (List.replicate 12 0))) := rfl
set_option maxRecDepth 100000 in
theorem hx_107 : (hp_X ++ hp_M)[107]? = some (.inl (0, .inl (List.replicate 12 0))) := rfl
set_option maxRecDepth 100000 in
theorem hx_108 : (hp_X ++ hp_M)[108]? = some (.inl (0, .inl (List.replicate 12 0))) := rfl
set_option maxRecDepth 100000 in
theorem hx_109 : (hp_X ++ hp_M)[109]? = some (.inr (4, [.int 0, .ref 110, .ref 111, .int 0, .int 0, .ref 112, .ref 113, .ref 114, .ref 115])) := rfl
set_option maxRecDepth 100000 in
theorem hx_110 : (hp_X ++ hp_M)[110]? = some (.inl (0, .inl (List.replicate 400 0))) := rfl
set_option maxRecDepth 100000 in
theorem hx_111 : (hp_X ++ hp_M)[111]? = some (.inl (0, .inl (List.replicate 400 0))) := rfl
set_option maxRecDepth 100000 in
theorem hx_112 : (hp_X ++ hp_M)[112]? = some (.inl (0, .inl (List.replicate 12 0))) := rfl
set_option maxRecDepth 100000 in
theorem hx_113 : (hp_X ++ hp_M)[113]? = some (.inl (0, .inl (List.replicate 12 0))) := rfl
set_option maxRecDepth 100000 in
theorem hx_114 : (hp_X ++ hp_M)[114]? = some (.inl (0, .inl (List.replicate 12 0))) := rfl
set_option maxRecDepth 100000 in
theorem hx_115 : (hp_X ++ hp_M)[115]? = some (.inl (0, .inl (List.replicate 12 0))) := rfl
set_option maxRecDepth 100000 in
theorem hx_116 : (hp_X ++ hp_M)[116]? = some (.inr (0, [.int 0, .ref 117, .ref 118, .ref 119, .int 0, .ref 120, .int 0, .ref 121, .ref 122, .int (-1), .int 60, .int 2, .int 0, .ref 129, .ref 130])) := rfl
set_option maxRecDepth 100000 in
theorem hx_117 : (hp_X ++ hp_M)[117]? = some (.inl (0, .inl (List.replicate 12 0))) := rfl
set_option maxRecDepth 100000 in
theorem hx_118 : (hp_X ++ hp_M)[118]? = some (.inl (0, .inl (List.replicate 12 0))) := rfl
set_option maxRecDepth 100000 in
theorem hx_119 : (hp_X ++ hp_M)[119]? = some (.inl (0, .inl (List.replicate 12 0))) := rfl
set_option maxRecDepth 100000 in
theorem hx_120 : (hp_X ++ hp_M)[120]? = some (.inl (0, .inl (List.replicate 48 0))) := rfl
set_option maxRecDepth 100000 in
theorem hx_121 : (hp_X ++ hp_M)[121]? = some (.inl (3, .inr (.inr ([some 131, some 138, some 145, some 152, some 159, some 166])))) := rfl
set_option maxRecDepth 100000 in
theorem hx_122 : (hp_X ++ hp_M)[122]? = some (.inr (4, [.int 0, .ref 123, .ref 124, .int 0, .int 0, .ref 125, .ref 126, .ref 127, .ref 128])) := rfl
set_option maxRecDepth 100000 in
theorem hx_123 : (hp_X ++ hp_M)[123]? = some (.inl (0, .inl (List.replicate 400 0))) := rfl
set_option maxRecDepth 100000 in
theorem hx_124 : (hp_X ++ hp_M)[124]? = some (.inl (0, .inl (List.replicate 400 0))) := rfl
set_option maxRecDepth 100000 in
theorem hx_125 : (hp_X ++ hp_M)[125]? = some (.inl (0, .inl (List.replicate 12 0))) := rfl
set_option maxRecDepth 100000 in
theorem hx_126 : (hp_X ++ hp_M)[126]? = some (.inl (0, .inl (List.replicate 12 0))) := rfl
set_option maxRecDepth 100000 in
theorem hx_127 : (hp_X ++ hp_M)[127]? = some (.inl (0, .inl (List.replicate 12 0))) := rfl
set_option maxRecDepth 100000 in
theorem hx_128 : (hp_X ++ hp_M)[128]? = some (.inl (0, .inl (List.replicate 12 0))) := rfl
set_option maxRecDepth 100000 in
theorem hx_129 : (hp_X ++ hp_M)[129]? = some (.inl (0, .inl (List.replicate 8 0))) := rfl
set_option maxRecDepth 100000 in
theorem hx_130 : (hp_X ++ hp_M)[130]? = some (.inl (0, .inl (List.replicate 8 0))) := rfl
set_option maxRecDepth 100000 in
theorem hx_131 : (hp_X ++ hp_M)[131]? = some (.inr (4, [.int 0, .ref 132, .ref 133, .int 0, .int 0, .ref 134, .ref 135, .ref 136, .ref 137])) := rfl
set_option maxRecDepth 100000 in
theorem hx_132 : (hp_X ++ hp_M)[132]? = some (.inl (0, .inl (List.replicate 400 0))) := rfl
set_option maxRecDepth 100000 in
theorem hx_133 : (hp_X ++ hp_M)[133]? = some (.inl (0, .inl (List.replicate 400 0))) := rfl
set_option maxRecDepth 100000 in
theorem hx_134 : (hp_X ++ hp_M)[134]? = some (.inl (0, .inl (List.replicate 12 0))) := rfl
set_option maxRecDepth 100000 in
theorem hx_135 : (hp_X ++ hp_M)[135]? = some (.inl (0, .inl (List.replicate 12 0))) := rfl
set_option maxRecDepth 100000 in
theorem hx_136 : (hp_X ++ hp_M)[136]? = some (.inl (0, .inl (List.replicate 12 0))) := rfl
set_option maxRecDepth 100000 in
theorem hx_137 : (hp_X ++ hp_M)[137]? = some (.inl (0, .inl (List.replicate 12 0))) := rfl
set_option maxRecDepth 100000 in
theorem hx_138 : (hp_X ++ hp_M)[138]? = some (.inr (4, [.int 0, .ref 139, .ref 140, .int 0, .int 0, .ref 141, .ref 142, .ref 143, .ref 144])) := rfl
set_option maxRecDepth 100000 in
theorem hx_139 : (hp_X ++ hp_M)[139]? = some (.inl (0, .inl (List.replicate 400 0))) := rfl
set_option maxRecDepth 100000 in
theorem hx_140 : (hp_X ++ hp_M)[140]? = some (.inl (0, .inl (List.replicate 400 0))) := rfl
set_option maxRecDepth 100000 in
theorem hx_141 : (hp_X ++ hp_M)[141]? = some (.inl (0, .inl (List.replicate 12 0))) := rfl
set_option maxRecDepth 100000 in
theorem hx_142 : (hp_X ++ hp_M)[142]? = some (.inl (0, .inl (List.replicate 12 0))) := rfl
set_option maxRecDepth 100000 in
theorem hx_143 : (hp_X ++ hp_M)[143]? = some (.inl (0, .inl (List.replicate 12 0))) := rfl
set_option maxRecDepth 100000 in
theorem hx_144 : (hp_X ++ hp_M)[144]? = some (.inl (0, .inl (List.replicate 12 0))) := rfl
set_option maxRecDepth 100000 in
theorem hx_145 : (hp_X ++ hp_M)[145]? = some (.inr (4, [.int 0, .ref 146, .ref 147, .int 0, .int 0, .ref 148, .ref 149, .ref 150, .ref 151])) := rfl
set_option maxRecDepth 100000 in
theorem hx_146 : (hp_X ++ hp_M)[146]? = some (.inl (0, .inl (List.replicate 400 0))) := rfl
set_option maxRecDepth 100000 in
theorem hx_147 : (hp_X ++ hp_M)[147]? = some (.inl (0, .inl (List.replicate 400 0))) := rfl
set_option maxRecDepth 100000 in
theorem hx_148 : (hp_X ++ hp_M)[148]? = some (.inl (0, .inl (List.replicate 12 0))) := rfl
set_option maxRecDepth 100000 in
theorem hx_149 : (hp_X ++ hp_M)[149]? = some (.inl (0, .inl (List.replicate 12 0))) := rfl
set_option maxRecDepth 100000 in
theorem hx_150 : (hp_X ++ hp_M)[150]? = some (.inl (0, .inl (List.replicate 12 0))) := rfl
set_option maxRecDepth 100000 in
theorem hx_151 : (hp_X ++ hp_M)[151]? = some (.inl (0, .inl (List.replicate 12 0))) := rfl
set_option maxRecDepth 100000 in
theorem hx_152 : (hp_X ++ hp_M)[152]? = some (.inr (4, [.int 0, .ref 153, .ref 154, .int 0, .int 0, .ref 155, .ref 156, .ref 157, .ref 158])) := rfl
set_option maxRecDepth 100000 in
theorem hx_153 : (hp_X ++ hp_M)[153]? = some (.inl (0, .inl (List.replicate 400 0))) := rfl
set_option maxRecDepth 100000 in
theorem hx_154 : (hp_X ++ hp_M)[154]? = some (.inl (0, .inl (List.replicate 400 0))) := rfl
set_option maxRecDepth 100000 in
theorem hx_155 : (hp_X ++ hp_M)[155]? = some (.inl (0, .inl (List.replicate 12 0))) := rfl
set_option maxRecDepth 100000 in
theorem hx_156 : (hp_X ++ hp_M)[156]? = some (.inl (0, .inl (List.replicate 12 0))) := rfl
set_option maxRecDepth 100000 in
theorem hx_157 : (hp_X ++ hp_M)[157]? = some (.inl (0, .inl (List.replicate 12 0))) := rfl
set_option maxRecDepth 100000 in
theorem hx_158 : (hp_X ++ hp_M)[158]? = some (.inl (0, .inl (List.replicate 12 0))) := rfl
set_option maxRecDepth 100000 in
theorem hx_159 : (hp_X ++ hp_M)[159]? = some (.inr (4, [.int 0, .ref 160, .ref 161, .int 0, .int 0, .ref 162, .ref 163, .ref 164, .ref 165])) := rfl
set_option maxRecDepth 100000 in
theorem hx_160 : (hp_X ++ hp_M)[160]? = some (.inl (0, .inl (List.replicate 400 0))) := rfl
set_option maxRecDepth 100000 in
theorem hx_161 : (hp_X ++ hp_M)[161]? = some (.inl (0, .inl (List.replicate 400 0))) := rfl
set_option maxRecDepth 100000 in
theorem hx_162 : (hp_X ++ hp_M)[162]? = some (.inl (0, .inl (List.replicate 12 0))) := rfl
set_option maxRecDepth 100000 in
theorem hx_163 : (hp_X ++ hp_M)[163]? = some (.inl (0, .inl (List.replicate 12 0))) := rfl
set_option maxRecDepth 100000 in
theorem hx_164 : (hp_X ++ hp_M)[164]? = some (.inl (0, .inl (List.replicate 12 0))) := rfl
set_option maxRecDepth 100000 in
theorem hx_165 : (hp_X ++ hp_M)[165]? = some (.inl (0, .inl (List.replicate 12 0))) := rfl
set_option maxRecDepth 100000 in
theorem hx_166 : (hp_X ++ hp_M)[166]? = some (.inr (4, [.int 0, .ref 167, .ref 168, .int 0, .int 0, .ref 169, .ref 170, .ref 171, .ref 172])) := rfl
set_option maxRecDepth 100000 in
theorem hx_167 : (hp_X ++ hp_M)[167]? = some (.inl (0, .inl (List.replicate 400 0))) := rfl
set_option maxRecDepth 100000 in
theorem hx_168 : (hp_X ++ hp_M)[168]? = some (.inl (0, .inl (List.replicate 400 0))) := rfl
set_option maxRecDepth 100000 in
theorem hx_169 : (hp_X ++ hp_M)[169]? = some (.inl (0, .inl (List.replicate 12 0))) := rfl
set_option maxRecDepth 100000 in
theorem hx_170 : (hp_X ++ hp_M)[170]? = some (.inl (0, .inl (List.replicate 12 0))) := rfl
set_option maxRecDepth 100000 in
theorem hx_171 : (hp_X ++ hp_M)[171]? = some (.inl (0, .inl (List.replicate 12 0))) := rfl
set_option maxRecDepth 100000 in
theorem hx_172 : (hp_X ++ hp_M)[172]? = some (.inl (0, .inl (List.replicate 12 0))) := rfl
set_option maxRecDepth 100000 in
theorem hx_173 : (hp_X ++ hp_M)[173]? = some (.inl (2, .inl ([0, 0]))) := rfl
set_option maxRecDepth 100000 in
theorem hx_174 : (hp_X ++ hp_M)[174]? = some (.inr (8, [.ref 175, .int 0])) := rfl
set_option maxRecDepth 100000 in
theorem hx_175 : (hp_X ++ hp_M)[175]? = some (.inl (0, .inl (List.replicate 400 0))) := rfl
set_option maxRecDepth 100000 in
theorem hx_176 : (hp_X ++ hp_M)[176]? = some (.inr (5, [.ref 174, .ref 177, .int (-1), .int 0, .int 0, .int 0, .int 0])) := rfl
set_option maxRecDepth 100000 in
theorem hx_177 : (hp_X ++ hp_M)[177]? = some (.inr (4, [.int 0, .ref 178, .ref 179, .int 0, .int 0, .ref 180, .ref 181, .ref 182, .ref 183])) := rfl
set_option maxRecDepth 100000 in
theorem hx_178 : (hp_X ++ hp_M)[178]? = some (.inl (0, .inl (List.replicate 400 0))) := rfl
set_option maxRecDepth 100000 in
theorem hx_179 : (hp_X ++ hp_M)[179]? = some (.inl (0, .inl (List.replicate 400 0))) := rfl
set_option maxRecDepth 100000 in
theorem hx_180 : (hp_X ++ hp_M)[180]? = some (.inl (0, .inl (List.replicate 12 0))) := rfl
set_option maxRecDepth 100000 in
theorem hx_181 : (hp_X ++ hp_M)[181]? = some (.inl (0, .inl (List.replicate 12 0))) := rfl
set_option maxRecDepth 100000 in
theorem hx_182 : (hp_X ++ hp_M)[182]? = some (.inl (0, .inl (List.replicate 12 0))) := rfl
set_option maxRecDepth 100000 in
theorem hx_183 : (hp_X ++ hp_M)[183]? = some (.inl (0, .inl (List.replicate 12 0))) := rfl
set_option maxRecDepth 100000 in
theorem hx_184 : (hp_X ++ hp_M)[184]? = some (.inr (9, [.ref 1])) := rfl
set_option maxRecDepth 100000 in
theorem hx_185 : (hp_X ++ hp_M)[185]? = some (.inr (3, [.ref 1, .ref 186, .ref 187, .int 0])) := rfl
set_option maxRecDepth 100000 in
theorem hx_186 : (hp_X ++ hp_M)[186]? = some (.inl (1, .inr (.inl (List.replicate 9 0)))) := rfl
set_option maxRecDepth 100000 in
theorem hx_187 : (hp_X ++ hp_M)[187]? = some (.inl (1, .inr (.inl (List.replicate 64 0)))) := rfl
set_option maxRecDepth 100000 in
theorem hx_188 : (hp_X ++ hp_M)[188]? = some (.inr (1, [.ref 1, .ref 185, .ref 189, .ref 190, .ref 191, .ref 192, .ref 193, .ref 194, .ref 195, .ref 196, .ref 197, .ref 198, .ref 199, .ref 200, .ref 201, .ref 202, .int 0, .ref 203, .int 0])) := rfl
set_option maxRecDepth 100000 in
theorem hx_189 : (hp_X ++ hp_M)[189]? = some (.inl (0, .inl (List.replicate 12 0))) := rfl
set_option maxRecDepth 100000 in
theorem hx_190 : (hp_X ++ hp_M)[190]? = some (.inl (0, .inl (List.replicate 12 0))) := rfl
set_option maxRecDepth 100000 in
theorem hx_191 : (hp_X ++ hp_M)[191]? = some (.inl (0, .inl (List.replicate 8 0))) := rfl
set_option maxRecDepth 100000 in
theorem hx_192 : (hp_X ++ hp_M)[192]? = some (.inl (0, .inl (List.replicate 12 0))) := rfl
set_option maxRecDepth 100000 in
theorem hx_193 : (hp_X ++ hp_M)[193]? = some (.inl (0, .inl (List.replicate 8 0))) := rfl
set_option maxRecDepth 100000 in
theorem hx_194 : (hp_X ++ hp_M)[194]? = some (.inl (0, .inl (List.replicate 8 0))) := rfl
set_option maxRecDepth 100000 in
theorem hx_195 : (hp_X ++ hp_M)[195]? = some (.inl (0, .inl (List.replicate 8 0))) := rfl
set_option maxRecDepth 100000 in
theorem hx_196 : (hp_X ++ hp_M)[196]? = some (.inl (0, .inl (List.replicate 8 0))) := rfl
set_option maxRecDepth 100000 in
theorem hx_197 : (hp_X ++ hp_M)[197]? = some (.inl (0, .inl (List.replicate 8 0))) := rfl
set_option maxRecDepth 100000 in
theorem hx_198 : (hp_X ++ hp_M)[198]? = some (.inl (0, .inl (List.replicate 8 0))) := rfl
set_option maxRecDepth 100000 in
theorem hx_199 : (hp_X ++ hp_M)[199]? = some (.inl (0, .inl (List.replicate 12 0))) := rfl
set_option maxRecDepth 100000 in
theorem hx_200 : (hp_X ++ hp_M)[200]? = some (.inl (0, .inl (List.replicate 12 0))) := rfl
set_option maxRecDepth 100000 in
theorem hx_201 : (hp_X ++ hp_M)[201]? = some (.inl (1, .inr (.inl (List.replicate 8 0)))) := rfl
set_option maxRecDepth 100000 in
theorem hx_202 : (hp_X ++ hp_M)[202]? = some (.inl (0, .inl (List.replicate 8 0))) := rfl
set_option maxRecDepth 100000 in
theorem hx_203 : (hp_X ++ hp_M)[203]? = some (.inl (0, .inl (List.replicate 800 0))) := rfl
set_option maxRecDepth 100000 in
theorem hx_204 : (hp_X ++ hp_M)[204]? = some (.inr (1, [.ref 1, .ref 185, .ref 205, .ref 206, .ref 207, .ref 208, .ref 209, .ref 210, .ref 211, .ref 212, .ref 213, .ref 214, .ref 215, .ref 216, .ref 217, .ref 218, .int 0, .ref 219, .int 0])) := rfl
set_option maxRecDepth 100000 in
theorem hx_205 : (hp_X ++ hp_M)[205]? = some (.inl (0, .inl (List.replicate 12 0))) := rfl
set_option maxRecDepth 100000 in
theorem hx_206 : (hp_X ++ hp_M)[206]? = some (.inl (0, .inl (List.replicate 12 0))) := rfl
set_option maxRecDepth 100000 in
theorem hx_207 : (hp_X ++ hp_M)[207]? = some (.inl (0, .inl (List.replicate 8 0))) := rfl
set_option maxRecDepth 100000 in
theorem hx_208 : (hp_X ++ hp_M)[208]? = some (.inl (0, .inl (List.replicate 12 0))) := rfl
set_option maxRecDepth 100000 in
theorem hx_209 : (hp_X ++ hp_M)[209]? = some (.inl (0, .inl (List.replicate 8 0))) := rfl
set_option maxRecDepth 100000 in
theorem hx_210 : (hp_X ++ hp_M)[210]? = some (.inl (0, .inl (List.replicate 8 0))) := rfl
set_option maxRecDepth 100000 in
theorem hx_211 : (hp_X ++ hp_M)[211]? = some (.inl (0, .inl (List.replicate 8 0))) := rfl
set_option maxRecDepth 100000 in
theorem hx_212 : (hp_X ++ hp_M)[212]? = some (.inl (0, .inl (List.replicate 8 0))) := rfl
set_option maxRecDepth 100000 in
theorem hx_213 : (hp_X ++ hp_M)[213]? = some (.inl (0, .inl (List.replicate 8 0))) := rfl
set_option maxRecDepth 100000 in
theorem hx_214 : (hp_X ++ hp_M)[214]? = some (.inl (0, .inl (List.replicate 8 0))) := rfl
set_option maxRecDepth 100000 in
theorem hx_215 : (hp_X ++ hp_M)[215]? = some (.inl (0, .inl (List.replicate 12 0))) := rfl
set_option maxRecDepth 100000 in
theorem hx_216 : (hp_X ++ hp_M)[216]? = some (.inl (0, .inl (List.replicate 12 0))) := rfl
set_option maxRecDepth 100000 in
theorem hx_217 : (hp_X ++ hp_M)[217]? = some (.inl (1, .inr (.inl (List.replicate 8 0)))) := rfl
set_option maxRecDepth 100000 in
theorem hx_218 : (hp_X ++ hp_M)[218]? = some (.inl (0, .inl (List.replicate 8 0))) := rfl
set_option maxRecDepth 100000 in
theorem hx_219 : (hp_X ++ hp_M)[219]? = some (.inl (0, .inl (List.replicate 800 0))) := rfl
set_option maxRecDepth 100000 in
theorem hx_220 : (hp_X ++ hp_M)[220]? = some (.inr (7, [.ref 1, .ref 204, .int (-1), .int 0, .int 0, .ref 221])) := rfl
set_option maxRecDepth 100000 in
theorem hx_221 : (hp_X ++ hp_M)[221]? = some (.inl (0, .inl ([0, 0, 0, 0]))) := rfl
set_option maxRecDepth 100000 in
theorem hx_222 : (hp_X ++ hp_M)[222]? = some (.inr (6, [.ref 1, .ref 204, .int 0, .int 0, .int 0, .int 0])) := rfl
set_option maxRecDepth 100000 in
theorem hx_223 : (hp_X ++ hp_M)[223]? = some (.inr (2, [.ref 1, .ref 185, .ref 224, .ref 225, .ref 226, .int 0, .int 0, .int 0, .int 0, .int 0, .int 0, .int 0, .ref 227])) := rfl
set_option maxRecDepth 100000 in
theorem hx_224 : (hp_X ++ hp_M)[224]? = some (.inl (0, .inl (List.replicate 12 0))) := rfl
set_option maxRecDepth 100000 in
theorem hx_225 : (hp_X ++ hp_M)[225]? = some (.inl (0, .inl (List.replicate 8 0))) := rfl
set_option maxRecDepth 100000 in
theorem hx_226 : (hp_X ++ hp_M)[226]? = some (.inl (0, .inl (List.replicate 9600 0))) := rfl
set_option maxRecDepth 100000 in
theorem hx_227 : (hp_X ++ hp_M)[227]? = some (.inl (0, .inl (List.replicate 12 0))) := rfl
set_option maxRecDepth 100000 in
theorem hx_228 : (hp_X ++ hp_M)[228]? = some (.inl (0, .inl (List.replicate 8 0))) := rfl
set_option maxRecDepth 100000 in
theorem hx_229 : (hp_X ++ hp_M)[229]? = some (.inl (0, .inl (List.replicate 8 0))) := rfl
set_option maxRecDepth 100000 in
theorem hx_230 : (hp_X ++ hp_M)[230]? = some (.inl (0, .inl (List.replicate 7 0))) := rfl
set_option maxRecDepth 100000 in
theorem hx_231 : (hp_X ++ hp_M)[231]? = some (.inr (11, [.int 0, .int 0, .ref 232, .ref 233, .ref 234, .ref 235, .int 0, .ref 236, .int 0, .int 0, .int 0, .int 0, .long 0, .int (-1), .int 0, .int 0, .ref 237, .int 0, .ref 238, .ref 239, .int 0, .ref 240, .ref 241, .int 0, .int 0, .ref 242, .ref 243, .int 0, .ref 244, .ref 245, .int 0, .long 0, .long 0, .ref 246, .ref 247, .ref 248, .int 0, .ref 249, .ref 250, .ref 251, .ref 252, .ref 253, .ref 254, .ref 255, .ref 256, .int 0, .int 0, .int 0, .long 0, .ref 257, .ref 258, .int 0])) := rfl
set_option maxRecDepth 100000 in
theorem hx_232 : (hp_X ++ hp_M)[232]? = some (.inl (0, .inl (List.replicate 7 0))) := rfl
set_option maxRecDepth 100000 in
theorem hx_233 : (hp_X ++ hp_M)[233]? = some (.inl (0, .inl ([0, 0, 0, (-1), 0, 60, 2] ++ List.replicate 5503 0))) := rfl
set_option maxRecDepth 100000 in
theorem hx_234 : (hp_X ++ hp_M)[234]? = some (.inl (0, .inl (List.replicate 11020 0))) := rfl
set_option maxRecDepth 100000 in
theorem hx_235 : (hp_X ++ hp_M)[235]? = some (.inl (2, .inl ([0, 0]))) := rfl
set_option maxRecDepth 100000 in
theorem hx_236 : (hp_X ++ hp_M)[236]? = some (.inl (0, .inl (List.replicate 400 0))) := rfl
set_option maxRecDepth 100000 in
theorem hx_237 : (hp_X ++ hp_M)[237]? = some (.inl (0, .inl (List.replicate 96 0))) := rfl
set_option maxRecDepth 100000 in
theorem hx_238 : (hp_X ++ hp_M)[238]? = some (.inl (0, .inl (List.replicate 400 0))) := rfl
set_option maxRecDepth 100000 in
theorem hx_239 : (hp_X ++ hp_M)[239]? = some (.inl (0, .inl (List.replicate 400 0))) := rfl
set_option maxRecDepth 100000 in
theorem hx_240 : (hp_X ++ hp_M)[240]? = some (.inl (0, .inl (List.replicate 400 0))) := rfl
set_option maxRecDepth 100000 in
theorem hx_241 : (hp_X ++ hp_M)[241]? = some (.inl (0, .inl (List.replicate 400 0))) := rfl
set_option maxRecDepth 100000 in
theorem hx_242 : (hp_X ++ hp_M)[242]? = some (.inl (1, .inr (.inl ([408612, 777297172, 8441477, 20579780, 398548, 446125701, 24159891, 674919554696, 52595])))) := rfl
set_option maxRecDepth 100000 in
theorem hx_243 : (hp_X ++ hp_M)[243]? = some (.inl (1, .inr (.inl ([6605428, 6309, 67155])))) := rfl
set_option maxRecDepth 100000 in
theorem hx_244 : (hp_X ++ hp_M)[244]? = some (.inl (1, .inr (.inl (List.replicate 13 0)))) := rfl
set_option maxRecDepth 100000 in
theorem hx_245 : (hp_X ++ hp_M)[245]? = some (.inl (1, .inr (.inl (List.replicate 400 0)))) := rfl
set_option maxRecDepth 100000 in
theorem hx_246 : (hp_X ++ hp_M)[246]? = some (.inl (0, .inl (List.replicate 12 0))) := rfl
set_option maxRecDepth 100000 in
theorem hx_247 : (hp_X ++ hp_M)[247]? = some (.inl (0, .inl (List.replicate 12 0))) := rfl
set_option maxRecDepth 100000 in
theorem hx_248 : (hp_X ++ hp_M)[248]? = some (.inl (0, .inl (List.replicate 8 0))) := rfl
set_option maxRecDepth 100000 in
theorem hx_249 : (hp_X ++ hp_M)[249]? = some (.inl (0, .inl (List.replicate 13 0))) := rfl
set_option maxRecDepth 100000 in
theorem hx_250 : (hp_X ++ hp_M)[250]? = some (.inl (0, .inl (List.replicate 8 0))) := rfl
set_option maxRecDepth 100000 in
theorem hx_251 : (hp_X ++ hp_M)[251]? = some (.inl (0, .inl (List.replicate 8 0))) := rfl
set_option maxRecDepth 100000 in
theorem hx_252 : (hp_X ++ hp_M)[252]? = some (.inl (0, .inl (List.replicate 8 0))) := rfl
set_option maxRecDepth 100000 in
theorem hx_253 : (hp_X ++ hp_M)[253]? = some (.inl (0, .inl (List.replicate 8 0))) := rfl
set_option maxRecDepth 100000 in
theorem hx_254 : (hp_X ++ hp_M)[254]? = some (.inl (0, .inl (List.replicate 8 0))) := rfl
set_option maxRecDepth 100000 in
theorem hx_255 : (hp_X ++ hp_M)[255]? = some (.inl (2, .inl (List.replicate 8 0))) := rfl
set_option maxRecDepth 100000 in
theorem hx_256 : (hp_X ++ hp_M)[256]? = some (.inl (0, .inl (List.replicate 800 0))) := rfl
set_option maxRecDepth 100000 in
theorem hx_257 : (hp_X ++ hp_M)[257]? = some (.inl (0, .inl (List.replicate 8 0))) := rfl
set_option maxRecDepth 100000 in
theorem hx_258 : (hp_X ++ hp_M)[258]? = some (.inl (0, .inl (List.replicate 8 0))) := rfl
set_option maxRecDepth 100000 in
theorem hm_231 (a : Nat → en_E) : (en_pre a 231 hp_M)[231]? = some (.inr (11, [.int 0, .int 0, .ref 232, .ref 233, .ref 234, .ref 235, .int 0, .ref 236, .int 0, .int 0, .int 0, .int 0, .long 0, .int (-1), .int 0, .int 0, .ref 237, .int 0, .ref 238, .ref 239, .int 0, .ref 240, .ref 241, .int 0, .int 0, .ref 242, .ref 243, .int 0, .ref 244, .ref 245, .int 0, .long 0, .long 0, .ref 246, .ref 247, .ref 248, .int 0, .ref 249, .ref 250, .ref 251, .ref 252, .ref 253, .ref 254, .ref 255, .ref 256, .int 0, .int 0, .int 0, .long 0, .ref 257, .ref 258, .int 0])) := rfl
set_option maxRecDepth 100000 in
theorem hm_232 (a : Nat → en_E) : (en_pre a 231 hp_M)[232]? = some (.inl (0, .inl (List.replicate 7 0))) := rfl
set_option maxRecDepth 100000 in
theorem hm_233 (a : Nat → en_E) : (en_pre a 231 hp_M)[233]? = some (.inl (0, .inl ([0, 0, 0, (-1), 0, 60, 2] ++ List.replicate 5503 0))) := rfl
set_option maxRecDepth 100000 in
theorem hm_234 (a : Nat → en_E) : (en_pre a 231 hp_M)[234]? = some (.inl (0, .inl (List.replicate 11020 0))) := rfl
set_option maxRecDepth 100000 in
theorem hm_235 (a : Nat → en_E) : (en_pre a 231 hp_M)[235]? = some (.inl (2, .inl ([0, 0]))) := rfl
set_option maxRecDepth 100000 in
theorem hm_236 (a : Nat → en_E) : (en_pre a 231 hp_M)[236]? = some (.inl (0, .inl (List.replicate 400 0))) := rfl
set_option maxRecDepth 100000 in
theorem hm_237 (a : Nat → en_E) : (en_pre a 231 hp_M)[237]? = some (.inl (0, .inl (List.replicate 96 0))) := rfl
set_option maxRecDepth 100000 in
theorem hm_238 (a : Nat → en_E) : (en_pre a 231 hp_M)[238]? = some (.inl (0, .inl (List.replicate 400 0))) := rfl
set_option maxRecDepth 100000 in
theorem hm_239 (a : Nat → en_E) : (en_pre a 231 hp_M)[239]? = some (.inl (0, .inl (List.replicate 400 0))) := rfl
set_option maxRecDepth 100000 in
theorem hm_240 (a : Nat → en_E) : (en_pre a 231 hp_M)[240]? = some (.inl (0, .inl (List.replicate 400 0))) := rfl
set_option maxRecDepth 100000 in
theorem hm_241 (a : Nat → en_E) : (en_pre a 231 hp_M)[241]? = some (.inl (0, .inl (List.replicate 400 0))) := rfl
set_option maxRecDepth 100000 in
theorem hm_242 (a : Nat → en_E) : (en_pre a 231 hp_M)[242]? = some (.inl (1, .inr (.inl ([408612, 777297172, 8441477, 20579780, 398548, 446125701, 24159891, 674919554696, 52595])))) := rfl
set_option maxRecDepth 100000 in
theorem hm_243 (a : Nat → en_E) : (en_pre a 231 hp_M)[243]? = some (.inl (1, .inr (.inl ([6605428, 6309, 67155])))) := rfl
set_option maxRecDepth 100000 in
theorem hm_244 (a : Nat → en_E) : (en_pre a 231 hp_M)[244]? = some (.inl (1, .inr (.inl (List.replicate 13 0)))) := rfl
set_option maxRecDepth 100000 in
theorem hm_245 (a : Nat → en_E) : (en_pre a 231 hp_M)[245]? = some (.inl (1, .inr (.inl (List.replicate 400 0)))) := rfl
set_option maxRecDepth 100000 in
theorem hm_246 (a : Nat → en_E) : (en_pre a 231 hp_M)[246]? = some (.inl (0, .inl (List.replicate 12 0))) := rfl
set_option maxRecDepth 100000 in
theorem hm_247 (a : Nat → en_E) : (en_pre a 231 hp_M)[247]? = some (.inl (0, .inl (List.replicate 12 0))) := rfl
set_option maxRecDepth 100000 in
theorem hm_248 (a : Nat → en_E) : (en_pre a 231 hp_M)[248]? = some (.inl (0, .inl (List.replicate 8 0))) := rfl
set_option maxRecDepth 100000 in
theorem hm_249 (a : Nat → en_E) : (en_pre a 231 hp_M)[249]? = some (.inl (0, .inl (List.replicate 13 0))) := rfl
set_option maxRecDepth 100000 in
theorem hm_250 (a : Nat → en_E) : (en_pre a 231 hp_M)[250]? = some (.inl (0, .inl (List.replicate 8 0))) := rfl
set_option maxRecDepth 100000 in
theorem hm_251 (a : Nat → en_E) : (en_pre a 231 hp_M)[251]? = some (.inl (0, .inl (List.replicate 8 0))) := rfl
set_option maxRecDepth 100000 in
theorem hm_252 (a : Nat → en_E) : (en_pre a 231 hp_M)[252]? = some (.inl (0, .inl (List.replicate 8 0))) := rfl
set_option maxRecDepth 100000 in
theorem hm_253 (a : Nat → en_E) : (en_pre a 231 hp_M)[253]? = some (.inl (0, .inl (List.replicate 8 0))) := rfl
set_option maxRecDepth 100000 in
theorem hm_254 (a : Nat → en_E) : (en_pre a 231 hp_M)[254]? = some (.inl (0, .inl (List.replicate 8 0))) := rfl
set_option maxRecDepth 100000 in
theorem hm_255 (a : Nat → en_E) : (en_pre a 231 hp_M)[255]? = some (.inl (2, .inl (List.replicate 8 0))) := rfl
set_option maxRecDepth 100000 in
theorem hm_256 (a : Nat → en_E) : (en_pre a 231 hp_M)[256]? = some (.inl (0, .inl (List.replicate 800 0))) := rfl
set_option maxRecDepth 100000 in
theorem hm_257 (a : Nat → en_E) : (en_pre a 231 hp_M)[257]? = some (.inl (0, .inl (List.replicate 8 0))) := rfl
set_option maxRecDepth 100000 in
theorem hm_258 (a : Nat → en_E) : (en_pre a 231 hp_M)[258]? = some (.inl (0, .inl (List.replicate 8 0))) := rfl
