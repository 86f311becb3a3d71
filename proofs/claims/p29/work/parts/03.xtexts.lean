abbrev sc_pc : ByteArray := prog_21_method_11_code
theorem sw_pc : (Jvm.Cond.code sn_pc sc_pc 3 (some .int)) ∈ en_W0 := en_in (c := 646) (by decide +kernel) rfl
theorem sk_pc : (Jvm.Cond.static sn_pc) ∈ en_W0 := en_in (c := 645) (by decide +kernel) rfl
theorem sd_pc_0 : decode sc_pc 0 = .ok (.iload_n 0, 1) := by decide +kernel
theorem sd_pc_1 : decode sc_pc 1 = .ok (.ifCond .lt 8, 3) := by decide +kernel
theorem sd_pc_4 : decode sc_pc 4 = .ok (.iload_n 0, 1) := by decide +kernel
theorem sd_pc_5 : decode sc_pc 5 = .ok (.iload_n 1, 1) := by decide +kernel
theorem sd_pc_6 : decode sc_pc 6 = .ok (.if_icmp .lt 10, 3) := by decide +kernel
theorem sd_pc_16 : decode sc_pc 16 = .ok (.iload_n 0, 1) := by decide +kernel
theorem sd_pc_17 : decode sc_pc 17 = .ok (.ireturn, 1) := by decide +kernel
abbrev sc_ck : ByteArray := prog_16_method_155_code
theorem sw_ck : (Jvm.Cond.code sn_ck sc_ck 2 (none)) ∈ en_W0 := en_in (c := 641) (by decide +kernel) rfl
theorem sk_ck : (Jvm.Cond.static sn_ck) ∈ en_W0 := en_in (c := 640) (by decide +kernel) rfl
theorem sd_ck_0 : decode sc_ck 0 = .ok (.iload_n 0, 1) := by decide +kernel
theorem sd_ck_1 : decode sc_ck 1 = .ok (.iload_n 1, 1) := by decide +kernel
theorem sd_ck_2 : decode sc_ck 2 = .ok (.getstatic 1053, 3) := by decide +kernel
theorem sd_ck_5 : decode sc_ck 5 = .ok (.invokestatic 1059, 3) := by decide +kernel
theorem sd_ck_8 : decode sc_ck 8 = .ok (.pop, 1) := by decide +kernel
theorem sd_ck_9 : decode sc_ck 9 = .ok (.return_, 1) := by decide +kernel
abbrev sc_lc : ByteArray := prog_17_method_2_code
theorem sw_lc : (Jvm.Cond.code sn_lc sc_lc 2 (some .char)) ∈ en_W0 := en_in (c := 638) (by decide +kernel) rfl
theorem sk_lc : (Jvm.Cond.static sn_lc) ∈ en_W0 := en_in (c := 637) (by decide +kernel) rfl
theorem sd_lc_0 : decode sc_lc 0 = .ok (.iload_n 1, 1) := by decide +kernel
theorem sd_lc_1 : decode sc_lc 1 = .ok (.aload_n 0, 1) := by decide +kernel
theorem sd_lc_2 : decode sc_lc 2 = .ok (.arraylength, 1) := by decide +kernel
theorem sd_lc_3 : decode sc_lc 3 = .ok (.invokestatic 9, 3) := by decide +kernel
theorem sd_lc_6 : decode sc_lc 6 = .ok (.aload_n 0, 1) := by decide +kernel
theorem sd_lc_7 : decode sc_lc 7 = .ok (.iload_n 1, 1) := by decide +kernel
theorem sd_lc_8 : decode sc_lc 8 = .ok (.baload, 1) := by decide +kernel
theorem sd_lc_9 : decode sc_lc 9 = .ok (.sipush 255, 3) := by decide +kernel
theorem sd_lc_12 : decode sc_lc 12 = .ok (.iand, 1) := by decide +kernel
theorem sd_lc_13 : decode sc_lc 13 = .ok (.i2c, 1) := by decide +kernel
theorem sd_lc_14 : decode sc_lc 14 = .ok (.ireturn, 1) := by decide +kernel
abbrev sc_il : ByteArray := prog_16_method_154_code
theorem sw_il : (Jvm.Cond.code sn_il sc_il 1 (some .boolean)) ∈ en_W0 := en_in (c := 635) (by decide +kernel) rfl
theorem sk_il : (Jvm.Cond.instanceMethod sn_il) ∈ en_W0 := en_in (c := 633) (by decide +kernel) rfl
theorem ss_il : (Jvm.Cond.selects "java/lang/String" sn_il sn_il) ∈ en_W0 := en_in (c := 634) (by decide +kernel) rfl
theorem sd_il_0 : decode sc_il 0 = .ok (.getstatic 38, 3) := by decide +kernel
theorem sd_il_3 : decode sc_il 3 = .ok (.ifCond .eq 14, 3) := by decide +kernel
theorem sd_il_6 : decode sc_il 6 = .ok (.aload_n 0, 1) := by decide +kernel
theorem sd_il_7 : decode sc_il 7 = .ok (.getfield 15, 3) := by decide +kernel
theorem sd_il_10 : decode sc_il 10 = .ok (.ifCond .ne 7, 3) := by decide +kernel
theorem sd_il_13 : decode sc_il 13 = .ok (.iconst 1, 1) := by decide +kernel
theorem sd_il_14 : decode sc_il 14 = .ok (.goto 4, 3) := by decide +kernel
theorem sd_il_18 : decode sc_il 18 = .ok (.ireturn, 1) := by decide +kernel
abbrev sc_ca : ByteArray := prog_16_method_56_code
theorem sw_ca : (Jvm.Cond.code sn_ca sc_ca 2 (some .char)) ∈ en_W0 := en_in (c := 631) (by decide +kernel) rfl
theorem sk_ca : (Jvm.Cond.instanceMethod sn_ca) ∈ en_W0 := en_in (c := 629) (by decide +kernel) rfl
theorem ss_ca : (Jvm.Cond.selects "java/lang/String" sn_ca sn_ca) ∈ en_W0 := en_in (c := 630) (by decide +kernel) rfl
theorem sd_ca_0 : decode sc_ca 0 = .ok (.aload_n 0, 1) := by decide +kernel
theorem sd_ca_1 : decode sc_ca 1 = .ok (.invokevirtual 492, 3) := by decide +kernel
theorem sd_ca_4 : decode sc_ca 4 = .ok (.ifCond .eq 12, 3) := by decide +kernel
theorem sd_ca_7 : decode sc_ca 7 = .ok (.aload_n 0, 1) := by decide +kernel
theorem sd_ca_8 : decode sc_ca 8 = .ok (.getfield 9, 3) := by decide +kernel
theorem sd_ca_11 : decode sc_ca 11 = .ok (.iload_n 1, 1) := by decide +kernel
theorem sd_ca_12 : decode sc_ca 12 = .ok (.invokestatic 495, 3) := by decide +kernel
theorem sd_ca_15 : decode sc_ca 15 = .ok (.ireturn, 1) := by decide +kernel
abbrev sc_co : ByteArray := prog_16_method_152_code
theorem sw_co : (Jvm.Cond.code sn_co sc_co 1 (some .byte)) ∈ en_W0 := en_in (c := 625) (by decide +kernel) rfl
theorem sk_co : (Jvm.Cond.instanceMethod sn_co) ∈ en_W0 := en_in (c := 623) (by decide +kernel) rfl
theorem ss_co : (Jvm.Cond.selects "java/lang/String" sn_co sn_co) ∈ en_W0 := en_in (c := 624) (by decide +kernel) rfl
theorem sd_co_0 : decode sc_co 0 = .ok (.getstatic 38, 3) := by decide +kernel
theorem sd_co_3 : decode sc_co 3 = .ok (.ifCond .eq 10, 3) := by decide +kernel
theorem sd_co_6 : decode sc_co 6 = .ok (.aload_n 0, 1) := by decide +kernel
theorem sd_co_7 : decode sc_co 7 = .ok (.getfield 15, 3) := by decide +kernel
theorem sd_co_10 : decode sc_co 10 = .ok (.goto 4, 3) := by decide +kernel
theorem sd_co_14 : decode sc_co 14 = .ok (.ireturn, 1) := by decide +kernel
abbrev sc_le : ByteArray := prog_16_method_54_code
theorem sw_le : (Jvm.Cond.code sn_le sc_le 1 (some .int)) ∈ en_W0 := en_in (c := 621) (by decide +kernel) rfl
theorem sk_le : (Jvm.Cond.instanceMethod sn_le) ∈ en_W0 := en_in (c := 619) (by decide +kernel) rfl
theorem ss_le : (Jvm.Cond.selects "java/lang/String" sn_le sn_le) ∈ en_W0 := en_in (c := 620) (by decide +kernel) rfl
theorem sd_le_0 : decode sc_le 0 = .ok (.aload_n 0, 1) := by decide +kernel
theorem sd_le_1 : decode sc_le 1 = .ok (.getfield 9, 3) := by decide +kernel
theorem sd_le_4 : decode sc_le 4 = .ok (.arraylength, 1) := by decide +kernel
theorem sd_le_5 : decode sc_le 5 = .ok (.aload_n 0, 1) := by decide +kernel
theorem sd_le_6 : decode sc_le 6 = .ok (.invokevirtual 335, 3) := by decide +kernel
theorem sd_le_9 : decode sc_le 9 = .ok (.ishr, 1) := by decide +kernel
theorem sd_le_10 : decode sc_le 10 = .ok (.ireturn, 1) := by decide +kernel
theorem si_str : (Jvm.Cond.initialized "java/lang/String") ∈ en_W0 := en_in (c := 14) (by decide +kernel) rfl
theorem si_sl : (Jvm.Cond.initialized "java/lang/StringLatin1") ∈ en_W0 := en_in (c := 15) (by decide +kernel) rfl
theorem si_pre : (Jvm.Cond.initialized "jdk/internal/util/Preconditions") ∈ en_W0 := en_in (c := 16) (by decide +kernel) rfl
theorem sl_pc : (Jvm.Cond.methodLink "java/lang/String" 1059 sn_pc) ∈ en_W0 := en_in (c := 644) (by decide +kernel) rfl
theorem sl_ck : (Jvm.Cond.methodLink "java/lang/StringLatin1" 9 sn_ck) ∈ en_W0 := en_in (c := 639) (by decide +kernel) rfl
theorem sl_lc : (Jvm.Cond.methodLink "java/lang/String" 495 sn_lc) ∈ en_W0 := en_in (c := 636) (by decide +kernel) rfl
theorem sl_il : (Jvm.Cond.methodLink "java/lang/String" 492 sn_il) ∈ en_W0 := en_in (c := 632) (by decide +kernel) rfl
theorem sl_co : (Jvm.Cond.methodLink "java/lang/String" 335 sn_co) ∈ en_W0 := en_in (c := 622) (by decide +kernel) rfl
theorem sf_cs : (Jvm.Cond.fieldLink "java/lang/String" 38 "java/lang/String" "COMPACT_STRINGS" "Z") ∈ en_W0 := en_in (c := 626) (by decide +kernel) rfl
theorem sf_fm : (Jvm.Cond.fieldLink "java/lang/String" 1053 "jdk/internal/util/Preconditions" "SIOOBE_FORMATTER" "Ljava/util/function/BiFunction;") ∈ en_W0 := en_in (c := 642) (by decide +kernel) rfl
theorem sf_va : (Jvm.Cond.fieldLink "java/lang/String" 9 "java/lang/String" "value" "[B") ∈ en_W0 := en_in (c := 1791) (by decide +kernel) rfl
theorem sf_cd : (Jvm.Cond.fieldLink "java/lang/String" 15 "java/lang/String" "coder" "B") ∈ en_W0 := en_in (c := 1792) (by decide +kernel) rfl
/-! ===== String.length, String.charAt: seven methods of the JDK, over a text constant ===== -/
def st_ws (y : MethodName) (cc : ByteArray) (n : Nat) (ret : Option FieldType) : List Jvm.Cond := .code y cc n ret :: en_W0
theorem st_good {y : MethodName} {cc : ByteArray} {n : Nat} {ret : Option FieldType} (h : (Jvm.Cond.code y cc n ret) ∈ en_W0) : GoodIn en_W0 (st_ws y cc n ret) := by
  intro w hw
  have h1 : w ∈ en_W0 := by
    rcases List.mem_cons.mp hw with rfl | h1
    · exact h
    · exact h1
  exact ⟨h1, good_of_word (List.mem_filter.mp h1).2⟩
def st_rm (d : Nat) : Room := { frames := d, cells := 0, slots := 0, locals := 32 * d }
def st_Q (v : Option Value) : Array Value → State → Outcome → State → Prop := fun _ st o t => o = .returned v ∧ t.heap = st.heap
def st_P (G : en_G) (as : List Value) (a t n : Nat) (f : Nat → Value) : Array Value → State → Prop := va_Pc as (fun U => st_S G a t n f U U.heap)
theorem st_blind {G : en_G} {as : List Value} {a t n : Nat} {f : Nat → Value} : FrameBlind (st_P G as a t n f) := fun a U g mk q => ⟨q.1, st_S.moved (u := U) (U := U.calling g mk a) q.2 (Vm.Alike.refl U.vm)⟩
theorem st_use {G : en_G} {as : List Value} {a t n : Nat} {f : Nat → Value} {s : State} {H : Heap} (h : st_S G a t n f s H) : ∀ U : State, U.heap = H → s.WarmedH U.vm → st_P G as a t n f as.toArray U := fun U hU hW => ⟨rfl, by show st_S G a t n f U U.heap; rw [hU]; exact h.moved hW.alike⟩
section STA
variable {p : Program} {L : Launch} {e : Env} {R : Room} {s : State} {m : MethodId} {args : Array Value} {below : List Frame} {meth : Method} {c : Code} {H : Heap} {locs : List Loc} {cells slots : Nat} {Q : State → Prop} {pc : Nat} {ls : Array Slot}
theorem st_after {v : Option Value} {st rest : List Value} {av : Array Value} (st' : List Value) (hst : v.toList ++ rest = st') (hrun : va_Run p L e R s m args below meth c H locs cells slots 0 0 (F0 m pc ls st) rest (st_Q v av) (fun _ => False)) (kk : W p L e R s m args below meth c H locs cells slots Q (F0 m (pc + 3) ls st')) : W p L e R s m args below meth c H locs cells slots Q (F0 m pc ls st) := by
  subst hst
  intro T hT X
  obtain ⟨v', st0, t, T', LL, h0, X', hLL, e1, e2, ⟨hv, hh⟩, stp⟩ := hrun T hT X
  have hv' : v' = v := Outcome.returned.inj hv
  subst hv'
  have hL : LL = [] := by
    cases LL with
    | nil => rfl
    | cons a r => exact (hLL a List.mem_cons_self).elim
  subst hL
  rw [List.append_nil] at X'
  obtain ⟨t2, a1, b1⟩ := kk T' (by rw [e1, hh]; exact h0) X'
  exact ⟨t2, stp t2 a1, b1⟩
end STA
section STC
variable {L : Launch} {G : en_G} {a t n : Nat} {f : Nat → Value} {i : Int32}
theorem sm_pc {k : Int32} {v : Value} (h0 : ¬ i < 0) (h1 : i < k) (hv : v = .null ∨ ∃ q, v = .ref q) : Met L sn_pc (st_ws sn_pc sc_pc 3 (some .int)) (st_rm 1) (st_P G [.int i, .int k, v] a t n f) (st_Q (some (.int i))) 0 0 (fun _ => False) := by
  refine Met.ofW (cc := sc_pc) (maxL := 3) (ret := some .int) (by decide +kernel) rfl ?_
  intro p e s m args below meth c s₁ B hml hP
  obtain ⟨rfl, hS⟩ := hP
  have hx := B.exec
  have hb := B.bytes
  have hret := B.returns
  have hlocks := B.notSynchronized
  have hl := lv_entry ([.int i, .int k, v] : List Value) (n := 3) (by rcases hv with rfl | ⟨q, rfl⟩ <;> exact Nat.le_of_ble_eq_true rfl)
  rw [lg_entry_eq]
  generalize (lg_sl ([.int i, .int k, v] : List Value) ++ List.replicate (3 - (lg_sl ([.int i, .int k, v] : List Value)).length) Slot.unset).toArray = ls at hl ⊢
  refine lv_iload_n hx hb sd_pc_0 rfl (lv_at hl 0 rfl) ?_
  refine lv_if_lt hx hb sd_pc_1 (tgt := 9) (by decide) (fun h => absurd h h0) (fun _ => ?_)
  refine lv_iload_n hx hb sd_pc_4 rfl (lv_at hl 0 rfl) ?_
  refine lv_iload_n hx hb sd_pc_5 rfl (lv_at hl 1 rfl) ?_
  refine lv_icmp_lt hx hb sd_pc_6 (tgt := 16) (by decide) (fun _ => ?_) (fun h => absurd h1 h)
  refine lv_iload_n hx hb sd_pc_16 rfl (lv_at hl 0 rfl) ?_
  exact W.iret hx hb hret (fun t ht _ => ⟨rfl, ht⟩) (fun q h => by cases h) sd_pc_17
theorem sm_ck {k : Int32} (h0 : ¬ i < 0) (h1 : i < k) : Met L sn_ck (st_ws sn_ck sc_ck 2 none) (st_rm 2) (st_P G [.int i, .int k] a t n f) (st_Q none) 0 0 (fun _ => False) := by
  refine Met.ofW (cc := sc_ck) (maxL := 2) (ret := none) (by decide +kernel) rfl ?_
  intro p e s m args below meth c s₁ B hml hP
  obtain ⟨rfl, hS⟩ := hP
  have hx := B.exec
  have hb := B.bytes
  have hret := B.returns
  have hlocks := B.notSynchronized
  have hown : s.vm.findClass "java/lang/String" = some m.cls := findClass_of_methodNamed B.named
  have hts0 := atoms_spec (ws := st_ws sn_ck sc_ck 2 none) B.pre
  have hts : ∀ w ∈ en_W0, w.before (([.int i, .int k] : List Value).toArray) s = true := fun w hw => hts0 w (List.mem_cons_of_mem _ hw)
  have hCF : CallFix p m c sc_ck 2 s (([.int i, .int k] : List Value).toArray) en_W0 "java/lang/String" := ⟨hx, hb, hml, hown, hts⟩
  obtain ⟨v, hv, hZ⟩ : ∃ v : Value, (v = .null ∨ ∃ q, v = .ref q) ∧ va_Z "jdk/internal/util/Preconditions" "SIOOBE_FORMATTER" "Ljava/util/function/BiFunction;" v (fun q => G.1 ≤ q) s s.heap := by
    rcases hS.2.1 with h | ⟨q, h⟩
    · exact ⟨_, Or.inl rfl, h⟩
    · exact ⟨_, Or.inr ⟨q, rfl⟩, h⟩
  have hl := lv_entry ([.int i, .int k] : List Value) (n := 2) (Nat.le_of_ble_eq_true rfl)
  rw [lg_entry_eq]
  generalize (lg_sl ([.int i, .int k] : List Value) ++ List.replicate (2 - (lg_sl ([.int i, .int k] : List Value)).length) Slot.unset).toArray = ls at hl ⊢
  refine lv_iload_n hx hb sd_ck_0 rfl (lv_at hl 0 rfl) ?_
  refine lv_iload_n hx hb sd_ck_1 rfl (lv_at hl 1 rfl) ?_
  refine va_gets hx hb hZ va_S.rf hown (hts _ sf_fm) (fun _ h => h) sd_ck_2 ?_
  refine st_after [.int i] rfl (va_runS (As := [.int i, .int k, v]) (rest := []) hCF (sm_pc h0 h1 hv) ⟨callB_of 3 hts (st_good sw_pc) rfl rfl rfl (hts _ si_pre) (hts _ sl_pc) ⟨by decide +kernel, by decide +kernel, by decide +kernel⟩ ⟨Nat.le_of_ble_eq_true rfl, Nat.le_of_ble_eq_true rfl⟩, hts _ sk_pc⟩ ⟨st_blind, st_use hS⟩ rfl rfl hl.1 rfl (lv_room (Nat.le_of_ble_eq_true rfl)) sd_ck_5 ⟨Nat.zero_le _, Nat.zero_le _⟩) ?_
  refine lv_pop hx hb sd_ck_8 rfl ?_
  exact W.vret hx hb hret (fun t ht _ => ⟨rfl, ht⟩) (fun q h => by cases h) sd_ck_9
theorem sm_lc {b : Int32} (h0 : ¬ i < 0) (h1 : i < Int32.ofNat n) (h2 : i.toNatClampNeg < n) (hf : f i.toNatClampNeg = .int b) (hb1 : ((b &&& 255).toUInt32 % 65536).toInt32 = b) (hb2 : narrow .char (.int b) = .int b) : Met L sn_lc (st_ws sn_lc sc_lc 2 (some .char)) (st_rm 3) (st_P G [.ref t, .int i] a t n f) (st_Q (some (.int b))) 0 0 (fun _ => False) := by
  refine Met.ofW (cc := sc_lc) (maxL := 2) (ret := some .char) (by decide +kernel) rfl ?_
  intro p e s m args below meth c s₁ B hml hP
  obtain ⟨rfl, hS⟩ := hP
  have hx := B.exec
  have hb := B.bytes
  have hret := B.returns
  have hlocks := B.notSynchronized
  have hown : s.vm.findClass "java/lang/StringLatin1" = some m.cls := findClass_of_methodNamed B.named
  have hts0 := atoms_spec (ws := st_ws sn_lc sc_lc 2 (some .char)) B.pre
  have hts : ∀ w ∈ en_W0, w.before (([.ref t, .int i] : List Value).toArray) s = true := fun w hw => hts0 w (List.mem_cons_of_mem _ hw)
  have hCF : CallFix p m c sc_lc 2 s (([.ref t, .int i] : List Value).toArray) en_W0 "java/lang/StringLatin1" := ⟨hx, hb, hml, hown, hts⟩
  have hl := lv_entry ([.ref t, .int i] : List Value) (n := 2) (Nat.le_of_ble_eq_true rfl)
  rw [lg_entry_eq]
  generalize (lg_sl ([.ref t, .int i] : List Value) ++ List.replicate (2 - (lg_sl ([.ref t, .int i] : List Value)).length) Slot.unset).toArray = ls at hl ⊢
  refine lv_iload_n hx hb sd_lc_0 rfl (lv_at hl 1 rfl) ?_
  refine lv_aload_n hx hb sd_lc_1 rfl (lv_at hl 0 rfl) ?_
  refine va_tlen hx hb hS.2.2.2.2.2 va_S.rf (v := Int32.ofNat n) rfl sd_lc_2 ?_
  refine st_after [] rfl (va_runS (As := [.int i, .int (Int32.ofNat n)]) (rest := []) hCF (sm_ck h0 h1) ⟨callB_of 2 hts (st_good sw_ck) rfl rfl rfl (hts _ si_str) (hts _ sl_ck) ⟨by decide +kernel, by decide +kernel, by decide +kernel⟩ ⟨Nat.le_of_ble_eq_true rfl, Nat.le_of_ble_eq_true rfl⟩, hts _ sk_ck⟩ ⟨st_blind, st_use hS⟩ rfl rfl hl.1 rfl (lv_room (Nat.le_of_ble_eq_true rfl)) sd_lc_3 ⟨Nat.zero_le _, Nat.zero_le _⟩) ?_
  refine lv_aload_n hx hb sd_lc_6 rfl (lv_at hl 0 rfl) ?_
  refine lv_iload_n hx hb sd_lc_7 rfl (lv_at hl 1 rfl) ?_
  refine va_tb hx hb hS.2.2.2.2.2 va_S.rf (fun h => h.elim h0 (fun h => absurd h2 (Nat.not_lt.mpr h))) hf sd_lc_8 ?_
  refine lv_sipush hx hb sd_lc_9 (v := 255) (by decide +kernel) ?_
  refine lv_iand hx hb sd_lc_12 ?_
  refine lv_i2c hx hb sd_lc_13 hb1 ?_
  exact W.zret hx hb hret hb2 (fun t ht _ => ⟨rfl, ht⟩) (fun q h => by cases h) sd_lc_14
theorem sm_il : Met L sn_il (st_ws sn_il sc_il 1 (some .boolean)) (st_rm 1) (st_P G [.ref a] a t n f) (st_Q (some (.int 1))) 0 0 (fun _ => False) := by
  refine Met.ofW (cc := sc_il) (maxL := 1) (ret := some .boolean) (by decide +kernel) rfl ?_
  intro p e s m args below meth c s₁ B hml hP
  obtain ⟨rfl, hS⟩ := hP
  have hx := B.exec
  have hb := B.bytes
  have hret := B.returns
  have hlocks := B.notSynchronized
  have hown : s.vm.findClass "java/lang/String" = some m.cls := findClass_of_methodNamed B.named
  have hts0 := atoms_spec (ws := st_ws sn_il sc_il 1 (some .boolean)) B.pre
  have hts : ∀ w ∈ en_W0, w.before (([.ref a] : List Value).toArray) s = true := fun w hw => hts0 w (List.mem_cons_of_mem _ hw)
  have hl := lv_entry ([.ref a] : List Value) (n := 1) (Nat.le_of_ble_eq_true rfl)
  rw [lg_entry_eq]
  generalize (lg_sl ([.ref a] : List Value) ++ List.replicate (1 - (lg_sl ([.ref a] : List Value)).length) Slot.unset).toArray = ls at hl ⊢
  refine va_gets hx hb hS.1 va_S.rf hown (hts _ sf_cs) (fun _ h => h) sd_il_0 ?_
  refine lv_if_eq hx hb sd_il_3 (tgt := 17) (by decide) (fun h => absurd h (by decide)) (fun _ => ?_)
  refine lv_aload_n hx hb sd_il_6 rfl (lv_at hl 0 rfl) ?_
  refine vk_getf hx hb hS.2.2.2.1 va_S.rf hown (hts _ sf_cd) (fun _ h => h) sd_il_7 ?_
  refine lv_if_ne hx hb sd_il_10 (tgt := 17) (by decide) (fun h => absurd h (by decide)) (fun _ => ?_)
  refine lv_iconst hx hb sd_il_13 rfl ?_
  refine lv_goto hx hb sd_il_14 (tgt := 18) (by decide) ?_
  exact W.zret (v := 1) hx hb hret (en_bool (Or.inr rfl)) (fun t ht _ => ⟨rfl, ht⟩) (fun q h => by cases h) sd_il_18
theorem sm_co : Met L sn_co (st_ws sn_co sc_co 1 (some .byte)) (st_rm 1) (st_P G [.ref a] a t n f) (st_Q (some (.int 0))) 0 0 (fun _ => False) := by
  refine Met.ofW (cc := sc_co) (maxL := 1) (ret := some .byte) (by decide +kernel) rfl ?_
  intro p e s m args below meth c s₁ B hml hP
  obtain ⟨rfl, hS⟩ := hP
  have hx := B.exec
  have hb := B.bytes
  have hret := B.returns
  have hlocks := B.notSynchronized
  have hown : s.vm.findClass "java/lang/String" = some m.cls := findClass_of_methodNamed B.named
  have hts0 := atoms_spec (ws := st_ws sn_co sc_co 1 (some .byte)) B.pre
  have hts : ∀ w ∈ en_W0, w.before (([.ref a] : List Value).toArray) s = true := fun w hw => hts0 w (List.mem_cons_of_mem _ hw)
  have hl := lv_entry ([.ref a] : List Value) (n := 1) (Nat.le_of_ble_eq_true rfl)
  rw [lg_entry_eq]
  generalize (lg_sl ([.ref a] : List Value) ++ List.replicate (1 - (lg_sl ([.ref a] : List Value)).length) Slot.unset).toArray = ls at hl ⊢
  refine va_gets hx hb hS.1 va_S.rf hown (hts _ sf_cs) (fun _ h => h) sd_co_0 ?_
  refine lv_if_eq hx hb sd_co_3 (tgt := 13) (by decide) (fun h => absurd h (by decide)) (fun _ => ?_)
  refine lv_aload_n hx hb sd_co_6 rfl (lv_at hl 0 rfl) ?_
  refine vk_getf hx hb hS.2.2.2.1 va_S.rf hown (hts _ sf_cd) (fun _ h => h) sd_co_7 ?_
  refine lv_goto hx hb sd_co_10 (tgt := 14) (by decide) ?_
  exact W.zret (v := 0) hx hb hret (by decide +kernel) (fun t ht _ => ⟨rfl, ht⟩) (fun q h => by cases h) sd_co_14
theorem st_recv {s : State} {H : Heap} (h : st_S G a t n f s H) : ∃ cell : Cell, H[a]? = some cell ∧ cell.vm.isStatics = false ∧ s.vm.findClass "java/lang/String" = some cell.cls := by
  obtain ⟨cell, h1, h2, h3, -⟩ := h.2.2.1
  exact ⟨cell, h1, h2, h3⟩
theorem st_shr (x : Int32) : x >>> ((0 : Int32) &&& 31) = x := by
  rw [show ((0 : Int32) &&& 31) = 0 by decide]
  exact Int32.shiftRight_zero
theorem sm_le : Met L sn_le (st_ws sn_le sc_le 1 (some .int)) (st_rm 2) (st_P G [.ref a] a t n f) (st_Q (some (.int (Int32.ofNat n)))) 0 0 (fun _ => False) := by
  refine Met.ofW (cc := sc_le) (maxL := 1) (ret := some .int) (by decide +kernel) rfl ?_
  intro p e s m args below meth c s₁ B hml hP
  obtain ⟨rfl, hS⟩ := hP
  have hx := B.exec
  have hb := B.bytes
  have hret := B.returns
  have hlocks := B.notSynchronized
  have hown : s.vm.findClass "java/lang/String" = some m.cls := findClass_of_methodNamed B.named
  have hts0 := atoms_spec (ws := st_ws sn_le sc_le 1 (some .int)) B.pre
  have hts : ∀ w ∈ en_W0, w.before (([.ref a] : List Value).toArray) s = true := fun w hw => hts0 w (List.mem_cons_of_mem _ hw)
  have hCF : CallFix p m c sc_le 1 s (([.ref a] : List Value).toArray) en_W0 "java/lang/String" := ⟨hx, hb, hml, hown, hts⟩
  have hl := lv_entry ([.ref a] : List Value) (n := 1) (Nat.le_of_ble_eq_true rfl)
  rw [lg_entry_eq]
  generalize (lg_sl ([.ref a] : List Value) ++ List.replicate (1 - (lg_sl ([.ref a] : List Value)).length) Slot.unset).toArray = ls at hl ⊢
  refine lv_aload_n hx hb sd_le_0 rfl (lv_at hl 0 rfl) ?_
  refine vk_getf hx hb hS.2.2.2.2.1 va_S.rf hown (hts _ sf_va) (fun _ h => h) sd_le_1 ?_
  refine va_tlen hx hb hS.2.2.2.2.2 va_S.rf (v := Int32.ofNat n) rfl sd_le_4 ?_
  refine lv_aload_n hx hb sd_le_5 rfl (lv_at hl 0 rfl) ?_
  refine st_after [.int 0, .int (Int32.ofNat n)] rfl (va_runV (As := []) (rest := [.int (Int32.ofNat n)]) (C := "java/lang/String") (b := a) hCF sm_co ⟨callB_of 0 hts (st_good sw_co) rfl rfl rfl (hts _ si_str) (hts _ sl_co) ⟨by decide +kernel, by decide +kernel, by decide +kernel⟩ ⟨Nat.le_of_ble_eq_true rfl, Nat.le_of_ble_eq_true rfl⟩, hts _ sk_co, hts _ ss_co⟩ ⟨st_blind, st_recv hS, st_use hS⟩ rfl rfl hl.1 rfl (lv_room (Nat.le_of_ble_eq_true rfl)) sd_le_6 ⟨Nat.zero_le _, Nat.zero_le _⟩) ?_
  refine lv_ishr hx hb sd_le_9 ?_
  rw [st_shr]
  exact W.iret hx hb hret (fun t ht _ => ⟨rfl, ht⟩) (fun q h => by cases h) sd_le_10
theorem sm_ca {b : Int32} (h0 : ¬ i < 0) (h1 : i < Int32.ofNat n) (h2 : i.toNatClampNeg < n) (hf : f i.toNatClampNeg = .int b) (hb1 : ((b &&& 255).toUInt32 % 65536).toInt32 = b) (hb2 : narrow .char (.int b) = .int b) : Met L sn_ca (st_ws sn_ca sc_ca 2 (some .char)) (st_rm 4) (st_P G [.ref a, .int i] a t n f) (st_Q (some (.int b))) 0 0 (fun _ => False) := by
  refine Met.ofW (cc := sc_ca) (maxL := 2) (ret := some .char) (by decide +kernel) rfl ?_
  intro p e s m args below meth c s₁ B hml hP
  obtain ⟨rfl, hS⟩ := hP
  have hx := B.exec
  have hb := B.bytes
  have hret := B.returns
  have hlocks := B.notSynchronized
  have hown : s.vm.findClass "java/lang/String" = some m.cls := findClass_of_methodNamed B.named
  have hts0 := atoms_spec (ws := st_ws sn_ca sc_ca 2 (some .char)) B.pre
  have hts : ∀ w ∈ en_W0, w.before (([.ref a, .int i] : List Value).toArray) s = true := fun w hw => hts0 w (List.mem_cons_of_mem _ hw)
  have hCF : CallFix p m c sc_ca 2 s (([.ref a, .int i] : List Value).toArray) en_W0 "java/lang/String" := ⟨hx, hb, hml, hown, hts⟩
  have hl := lv_entry ([.ref a, .int i] : List Value) (n := 2) (Nat.le_of_ble_eq_true rfl)
  rw [lg_entry_eq]
  generalize (lg_sl ([.ref a, .int i] : List Value) ++ List.replicate (2 - (lg_sl ([.ref a, .int i] : List Value)).length) Slot.unset).toArray = ls at hl ⊢
  refine lv_aload_n hx hb sd_ca_0 rfl (lv_at hl 0 rfl) ?_
  refine st_after [.int 1] rfl (va_runV (As := []) (rest := []) (C := "java/lang/String") (b := a) hCF sm_il ⟨callB_of 0 hts (st_good sw_il) rfl rfl rfl (hts _ si_str) (hts _ sl_il) ⟨by decide +kernel, by decide +kernel, by decide +kernel⟩ ⟨Nat.le_of_ble_eq_true rfl, Nat.le_of_ble_eq_true rfl⟩, hts _ sk_il, hts _ ss_il⟩ ⟨st_blind, st_recv hS, st_use hS⟩ rfl rfl hl.1 rfl (lv_room (Nat.le_of_ble_eq_true rfl)) sd_ca_1 ⟨Nat.zero_le _, Nat.zero_le _⟩) ?_
  refine lv_if_eq hx hb sd_ca_4 (tgt := 16) (by decide) (fun h => absurd h (by decide)) (fun _ => ?_)
  refine lv_aload_n hx hb sd_ca_7 rfl (lv_at hl 0 rfl) ?_
  refine vk_getf hx hb hS.2.2.2.2.1 va_S.rf hown (hts _ sf_va) (fun _ h => h) sd_ca_8 ?_
  refine lv_iload_n hx hb sd_ca_11 rfl (lv_at hl 1 rfl) ?_
  refine st_after [.int b] rfl (va_runS (As := [.ref t, .int i]) (rest := []) hCF (sm_lc h0 h1 h2 hf hb1 hb2) ⟨callB_of 2 hts (st_good sw_lc) rfl rfl rfl (hts _ si_sl) (hts _ sl_lc) ⟨by decide +kernel, by decide +kernel, by decide +kernel⟩ ⟨Nat.le_of_ble_eq_true rfl, Nat.le_of_ble_eq_true rfl⟩, hts _ sk_lc⟩ ⟨st_blind, st_use hS⟩ rfl rfl hl.1 rfl (lv_room (Nat.le_of_ble_eq_true rfl)) sd_ca_12 ⟨Nat.zero_le _, Nat.zero_le _⟩) ?_
  exact W.zret hx hb hret hb2 (fun t ht _ => ⟨rfl, ht⟩) (fun q h => by cases h) sd_ca_15
end STC
theorem st_len : ∀ k, k < 17 → en_tl.getD k 0 ≤ 8 := by decide +kernel
theorem st_chr : ∀ k, k < 17 → ∀ j, j < en_tl.getD k 0 → (((((en_txt.getD k []).getD j 0) &&& 255).toUInt32 % 65536).toInt32 = (en_txt.getD k []).getD j 0 ∧ narrow .char (.int ((en_txt.getD k []).getD j 0)) = .int ((en_txt.getD k []).getD j 0)) := by decide +kernel

