/-! ===== the decoder's step where the instruction is known: byte by byte ===== -/
def fd_b (c : ByteArray) (p : Nat) : Nat := match c.data.toList[p]? with
  | some b => b.toNat
  | none => 1000
theorem fd_b_ok {c : ByteArray} {p v : Nat} (h : fd_b c p = v) (hv : v < 1000) : ∃ hp : p < c.size, c[p].toNat = v := by
  unfold fd_b at h
  cases hb : c.data.toList[p]? with
  | none => rw [hb] at h; dsimp only at h; omega
  | some b =>
    rw [hb] at h
    have k := List.getElem?_eq_some_iff.mp hb
    obtain ⟨hp, e⟩ := k
    rw [Array.length_toList] at hp
    refine ⟨hp, ?_⟩
    rw [← h, ← e]
    rfl
theorem fd_u1 {c : ByteArray} {p v : Nat} (h : fd_b c p = v) (hv : v < 1000) : (Jvm.ClassFile.Reader.u1 : Jvm.ClassFile.Decoder Nat) c p = .ok (v, p + 1) := by
  obtain ⟨hp, h⟩ := fd_b_ok h hv
  subst h
  show (dite (p < c.size) (fun h => (do set (p + 1); pure c[p].toNat : Jvm.ClassFile.Decoder Nat)) (fun _ => throw (Jvm.ClassFile.HasTruncated.truncated p))) c p = _
  rw [dif_pos hp]
  rfl
theorem fd_bind {α β : Type} {x : Jvm.ClassFile.Decoder α} {f : α → Jvm.ClassFile.Decoder β} {c : ByteArray} {p q : Nat} {a : α} {r : Except Jvm.ClassFile.DecodeError (β × Nat)} (h : x c p = .ok (a, q)) (k : f a c q = r) : (x >>= f) c p = r := by
  show (do let (a, s) ← x c p; f a c s) = _
  rw [h]
  exact k
theorem fd_map {α β : Type} {x : Jvm.ClassFile.Decoder α} {f : α → β} {c : ByteArray} {p q : Nat} {a : α} (h : x c p = .ok (a, q)) : (f <$> x) c p = .ok (f a, q) := by
  show (do let (a, s) ← x c p; pure (f a, s)) = _
  rw [h]
  rfl
theorem fd_u2 {c : ByteArray} {p v w : Nat} (h : fd_b c p = v) (hv : v < 1000) (h2 : fd_b c (p + 1) = w) (hw : w < 1000) : (Jvm.ClassFile.Reader.u2 : Jvm.ClassFile.Decoder Nat) c p = .ok (v * 256 + w, p + 2) := fd_bind (fd_u1 h hv) (fd_bind (fd_u1 h2 hw) rfl)
theorem fd_s1 {c : ByteArray} {p v : Nat} (h : fd_b c p = v) (hv : v < 1000) : (Jvm.ClassFile.Reader.s1 : Jvm.ClassFile.Decoder Int) c p = .ok (Jvm.ClassFile.Reader.signed 8 v, p + 1) := fd_map (fd_u1 h hv)
theorem fd_s2 {c : ByteArray} {p v w : Nat} (h : fd_b c p = v) (hv : v < 1000) (h2 : fd_b c (p + 1) = w) (hw : w < 1000) : (Jvm.ClassFile.Reader.s2 : Jvm.ClassFile.Decoder Int) c p = .ok (Jvm.ClassFile.Reader.signed 16 (v * 256 + w), p + 2) := fd_map (fd_u2 h hv h2 hw)
theorem fd_dec {c : ByteArray} {p q n : Nat} {i : Instr} (h : Jvm.ClassFile.Decoder.instr p c p = .ok (i, q)) (hn : q = p + n) : decode c p = .ok (i, n) := by
  show (do let (i, q) ← Jvm.ClassFile.Decoder.instr p c p; pure (i, q - p)) = _
  rw [h]
  subst hn
  show Except.ok (i, p + n - p) = _
  rw [Nat.add_sub_cancel_left]
theorem fd_iaload {c : ByteArray} {p : Nat} (h0 : fd_b c p = 46) : decode c p = .ok (.iaload, 1) := fd_dec (fd_bind (fd_u1 h0 (by decide)) rfl) (by rfl)
theorem fd_ireturn {c : ByteArray} {p : Nat} (h0 : fd_b c p = 172) : decode c p = .ok (.ireturn, 1) := fd_dec (fd_bind (fd_u1 h0 (by decide)) rfl) (by rfl)
theorem fd_iadd {c : ByteArray} {p : Nat} (h0 : fd_b c p = 96) : decode c p = .ok (.iadd, 1) := fd_dec (fd_bind (fd_u1 h0 (by decide)) rfl) (by rfl)
theorem fd_iastore {c : ByteArray} {p : Nat} (h0 : fd_b c p = 79) : decode c p = .ok (.iastore, 1) := fd_dec (fd_bind (fd_u1 h0 (by decide)) rfl) (by rfl)
theorem fd_pop {c : ByteArray} {p : Nat} (h0 : fd_b c p = 87) : decode c p = .ok (.pop, 1) := fd_dec (fd_bind (fd_u1 h0 (by decide)) rfl) (by rfl)
theorem fd_return_ {c : ByteArray} {p : Nat} (h0 : fd_b c p = 177) : decode c p = .ok (.return_, 1) := fd_dec (fd_bind (fd_u1 h0 (by decide)) rfl) (by rfl)
theorem fd_i2l {c : ByteArray} {p : Nat} (h0 : fd_b c p = 133) : decode c p = .ok (.i2l, 1) := fd_dec (fd_bind (fd_u1 h0 (by decide)) rfl) (by rfl)
theorem fd_dup {c : ByteArray} {p : Nat} (h0 : fd_b c p = 89) : decode c p = .ok (.dup, 1) := fd_dec (fd_bind (fd_u1 h0 (by decide)) rfl) (by rfl)
theorem fd_isub {c : ByteArray} {p : Nat} (h0 : fd_b c p = 100) : decode c p = .ok (.isub, 1) := fd_dec (fd_bind (fd_u1 h0 (by decide)) rfl) (by rfl)
theorem fd_imul {c : ByteArray} {p : Nat} (h0 : fd_b c p = 104) : decode c p = .ok (.imul, 1) := fd_dec (fd_bind (fd_u1 h0 (by decide)) rfl) (by rfl)
theorem fd_lastore {c : ByteArray} {p : Nat} (h0 : fd_b c p = 80) : decode c p = .ok (.lastore, 1) := fd_dec (fd_bind (fd_u1 h0 (by decide)) rfl) (by rfl)
theorem fd_lcmp {c : ByteArray} {p : Nat} (h0 : fd_b c p = 148) : decode c p = .ok (.lcmp, 1) := fd_dec (fd_bind (fd_u1 h0 (by decide)) rfl) (by rfl)
theorem fd_dup2 {c : ByteArray} {p : Nat} (h0 : fd_b c p = 92) : decode c p = .ok (.dup2, 1) := fd_dec (fd_bind (fd_u1 h0 (by decide)) rfl) (by rfl)
theorem fd_laload {c : ByteArray} {p : Nat} (h0 : fd_b c p = 47) : decode c p = .ok (.laload, 1) := fd_dec (fd_bind (fd_u1 h0 (by decide)) rfl) (by rfl)
theorem fd_ishl {c : ByteArray} {p : Nat} (h0 : fd_b c p = 120) : decode c p = .ok (.ishl, 1) := fd_dec (fd_bind (fd_u1 h0 (by decide)) rfl) (by rfl)
theorem fd_lreturn {c : ByteArray} {p : Nat} (h0 : fd_b c p = 173) : decode c p = .ok (.lreturn, 1) := fd_dec (fd_bind (fd_u1 h0 (by decide)) rfl) (by rfl)
theorem fd_areturn {c : ByteArray} {p : Nat} (h0 : fd_b c p = 176) : decode c p = .ok (.areturn, 1) := fd_dec (fd_bind (fd_u1 h0 (by decide)) rfl) (by rfl)
theorem fd_iand {c : ByteArray} {p : Nat} (h0 : fd_b c p = 126) : decode c p = .ok (.iand, 1) := fd_dec (fd_bind (fd_u1 h0 (by decide)) rfl) (by rfl)
theorem fd_lsub {c : ByteArray} {p : Nat} (h0 : fd_b c p = 101) : decode c p = .ok (.lsub, 1) := fd_dec (fd_bind (fd_u1 h0 (by decide)) rfl) (by rfl)
theorem fd_ior {c : ByteArray} {p : Nat} (h0 : fd_b c p = 128) : decode c p = .ok (.ior, 1) := fd_dec (fd_bind (fd_u1 h0 (by decide)) rfl) (by rfl)
theorem fd_aload_n0 {c : ByteArray} {p : Nat} (h0 : fd_b c p = 42) : decode c p = .ok (.aload_n 0, 1) := fd_dec (fd_bind (fd_u1 h0 (by decide)) rfl) (by rfl)
theorem fd_aload_n1 {c : ByteArray} {p : Nat} (h0 : fd_b c p = 43) : decode c p = .ok (.aload_n 1, 1) := fd_dec (fd_bind (fd_u1 h0 (by decide)) rfl) (by rfl)
theorem fd_aload_n2 {c : ByteArray} {p : Nat} (h0 : fd_b c p = 44) : decode c p = .ok (.aload_n 2, 1) := fd_dec (fd_bind (fd_u1 h0 (by decide)) rfl) (by rfl)
theorem fd_aload_n3 {c : ByteArray} {p : Nat} (h0 : fd_b c p = 45) : decode c p = .ok (.aload_n 3, 1) := fd_dec (fd_bind (fd_u1 h0 (by decide)) rfl) (by rfl)
theorem fd_iload_n0 {c : ByteArray} {p : Nat} (h0 : fd_b c p = 26) : decode c p = .ok (.iload_n 0, 1) := fd_dec (fd_bind (fd_u1 h0 (by decide)) rfl) (by rfl)
theorem fd_iload_n1 {c : ByteArray} {p : Nat} (h0 : fd_b c p = 27) : decode c p = .ok (.iload_n 1, 1) := fd_dec (fd_bind (fd_u1 h0 (by decide)) rfl) (by rfl)
theorem fd_iload_n2 {c : ByteArray} {p : Nat} (h0 : fd_b c p = 28) : decode c p = .ok (.iload_n 2, 1) := fd_dec (fd_bind (fd_u1 h0 (by decide)) rfl) (by rfl)
theorem fd_iload_n3 {c : ByteArray} {p : Nat} (h0 : fd_b c p = 29) : decode c p = .ok (.iload_n 3, 1) := fd_dec (fd_bind (fd_u1 h0 (by decide)) rfl) (by rfl)
theorem fd_istore_n0 {c : ByteArray} {p : Nat} (h0 : fd_b c p = 59) : decode c p = .ok (.istore_n 0, 1) := fd_dec (fd_bind (fd_u1 h0 (by decide)) rfl) (by rfl)
theorem fd_istore_n1 {c : ByteArray} {p : Nat} (h0 : fd_b c p = 60) : decode c p = .ok (.istore_n 1, 1) := fd_dec (fd_bind (fd_u1 h0 (by decide)) rfl) (by rfl)
theorem fd_istore_n2 {c : ByteArray} {p : Nat} (h0 : fd_b c p = 61) : decode c p = .ok (.istore_n 2, 1) := fd_dec (fd_bind (fd_u1 h0 (by decide)) rfl) (by rfl)
theorem fd_istore_n3 {c : ByteArray} {p : Nat} (h0 : fd_b c p = 62) : decode c p = .ok (.istore_n 3, 1) := fd_dec (fd_bind (fd_u1 h0 (by decide)) rfl) (by rfl)
theorem fd_lload_n0 {c : ByteArray} {p : Nat} (h0 : fd_b c p = 30) : decode c p = .ok (.lload_n 0, 1) := fd_dec (fd_bind (fd_u1 h0 (by decide)) rfl) (by rfl)
theorem fd_lload_n1 {c : ByteArray} {p : Nat} (h0 : fd_b c p = 31) : decode c p = .ok (.lload_n 1, 1) := fd_dec (fd_bind (fd_u1 h0 (by decide)) rfl) (by rfl)
theorem fd_lload_n2 {c : ByteArray} {p : Nat} (h0 : fd_b c p = 32) : decode c p = .ok (.lload_n 2, 1) := fd_dec (fd_bind (fd_u1 h0 (by decide)) rfl) (by rfl)
theorem fd_lload_n3 {c : ByteArray} {p : Nat} (h0 : fd_b c p = 33) : decode c p = .ok (.lload_n 3, 1) := fd_dec (fd_bind (fd_u1 h0 (by decide)) rfl) (by rfl)
theorem fd_lconst0 {c : ByteArray} {p : Nat} (h0 : fd_b c p = 9) : decode c p = .ok (.lconst 0, 1) := fd_dec (fd_bind (fd_u1 h0 (by decide)) rfl) (by rfl)
theorem fd_lconst1 {c : ByteArray} {p : Nat} (h0 : fd_b c p = 10) : decode c p = .ok (.lconst 1, 1) := fd_dec (fd_bind (fd_u1 h0 (by decide)) rfl) (by rfl)
theorem fd_iconstm1 {c : ByteArray} {p : Nat} (h0 : fd_b c p = 2) : decode c p = .ok (.iconst (-1), 1) := fd_dec (fd_bind (fd_u1 h0 (by decide)) rfl) (by rfl)
theorem fd_iconst0 {c : ByteArray} {p : Nat} (h0 : fd_b c p = 3) : decode c p = .ok (.iconst (0), 1) := fd_dec (fd_bind (fd_u1 h0 (by decide)) rfl) (by rfl)
theorem fd_iconst1 {c : ByteArray} {p : Nat} (h0 : fd_b c p = 4) : decode c p = .ok (.iconst (1), 1) := fd_dec (fd_bind (fd_u1 h0 (by decide)) rfl) (by rfl)
theorem fd_iconst2 {c : ByteArray} {p : Nat} (h0 : fd_b c p = 5) : decode c p = .ok (.iconst (2), 1) := fd_dec (fd_bind (fd_u1 h0 (by decide)) rfl) (by rfl)
theorem fd_iconst3 {c : ByteArray} {p : Nat} (h0 : fd_b c p = 6) : decode c p = .ok (.iconst (3), 1) := fd_dec (fd_bind (fd_u1 h0 (by decide)) rfl) (by rfl)
theorem fd_iconst4 {c : ByteArray} {p : Nat} (h0 : fd_b c p = 7) : decode c p = .ok (.iconst (4), 1) := fd_dec (fd_bind (fd_u1 h0 (by decide)) rfl) (by rfl)
theorem fd_iconst5 {c : ByteArray} {p : Nat} (h0 : fd_b c p = 8) : decode c p = .ok (.iconst (5), 1) := fd_dec (fd_bind (fd_u1 h0 (by decide)) rfl) (by rfl)
theorem fd_iload {c : ByteArray} {p : Nat} {v : Nat} (h0 : fd_b c p = 21) (h1 : fd_b c (p + 1) = v) (g1 : v < 1000) : decode c p = .ok (.iload v, 2) := fd_dec (fd_bind (fd_u1 h0 (by decide)) (fd_bind (fd_u1 h1 g1) rfl)) (by rfl)
theorem fd_istore {c : ByteArray} {p : Nat} {v : Nat} (h0 : fd_b c p = 54) (h1 : fd_b c (p + 1) = v) (g1 : v < 1000) : decode c p = .ok (.istore v, 2) := fd_dec (fd_bind (fd_u1 h0 (by decide)) (fd_bind (fd_u1 h1 g1) rfl)) (by rfl)
theorem fd_ldc {c : ByteArray} {p : Nat} {v : Nat} (h0 : fd_b c p = 18) (h1 : fd_b c (p + 1) = v) (g1 : v < 1000) : decode c p = .ok (.ldc v, 2) := fd_dec (fd_bind (fd_u1 h0 (by decide)) (fd_bind (fd_u1 h1 g1) rfl)) (by rfl)
theorem fd_lload {c : ByteArray} {p : Nat} {v : Nat} (h0 : fd_b c p = 22) (h1 : fd_b c (p + 1) = v) (g1 : v < 1000) : decode c p = .ok (.lload v, 2) := fd_dec (fd_bind (fd_u1 h0 (by decide)) (fd_bind (fd_u1 h1 g1) rfl)) (by rfl)
theorem fd_aload {c : ByteArray} {p : Nat} {v : Nat} (h0 : fd_b c p = 25) (h1 : fd_b c (p + 1) = v) (g1 : v < 1000) : decode c p = .ok (.aload v, 2) := fd_dec (fd_bind (fd_u1 h0 (by decide)) (fd_bind (fd_u1 h1 g1) rfl)) (by rfl)
theorem fd_lstore {c : ByteArray} {p : Nat} {v : Nat} (h0 : fd_b c p = 55) (h1 : fd_b c (p + 1) = v) (g1 : v < 1000) : decode c p = .ok (.lstore v, 2) := fd_dec (fd_bind (fd_u1 h0 (by decide)) (fd_bind (fd_u1 h1 g1) rfl)) (by rfl)
theorem fd_getfield {c : ByteArray} {p : Nat} {v w : Nat} (h0 : fd_b c p = 180) (h1 : fd_b c (p + 1) = v) (g1 : v < 1000) (h2 : fd_b c (p + 2) = w) (g2 : w < 1000) : decode c p = .ok (.getfield (v * 256 + w), 3) := fd_dec (fd_bind (fd_u1 h0 (by decide)) (fd_bind (fd_u2 h1 g1 h2 g2) rfl)) (by rfl)
theorem fd_putfield {c : ByteArray} {p : Nat} {v w : Nat} (h0 : fd_b c p = 181) (h1 : fd_b c (p + 1) = v) (g1 : v < 1000) (h2 : fd_b c (p + 2) = w) (g2 : w < 1000) : decode c p = .ok (.putfield (v * 256 + w), 3) := fd_dec (fd_bind (fd_u1 h0 (by decide)) (fd_bind (fd_u2 h1 g1 h2 g2) rfl)) (by rfl)
theorem fd_invokevirtual {c : ByteArray} {p : Nat} {v w : Nat} (h0 : fd_b c p = 182) (h1 : fd_b c (p + 1) = v) (g1 : v < 1000) (h2 : fd_b c (p + 2) = w) (g2 : w < 1000) : decode c p = .ok (.invokevirtual (v * 256 + w), 3) := fd_dec (fd_bind (fd_u1 h0 (by decide)) (fd_bind (fd_u2 h1 g1 h2 g2) rfl)) (by rfl)
theorem fd_invokestatic {c : ByteArray} {p : Nat} {v w : Nat} (h0 : fd_b c p = 184) (h1 : fd_b c (p + 1) = v) (g1 : v < 1000) (h2 : fd_b c (p + 2) = w) (g2 : w < 1000) : decode c p = .ok (.invokestatic (v * 256 + w), 3) := fd_dec (fd_bind (fd_u1 h0 (by decide)) (fd_bind (fd_u2 h1 g1 h2 g2) rfl)) (by rfl)
theorem fd_invokespecial {c : ByteArray} {p : Nat} {v w : Nat} (h0 : fd_b c p = 183) (h1 : fd_b c (p + 1) = v) (g1 : v < 1000) (h2 : fd_b c (p + 2) = w) (g2 : w < 1000) : decode c p = .ok (.invokespecial (v * 256 + w), 3) := fd_dec (fd_bind (fd_u1 h0 (by decide)) (fd_bind (fd_u2 h1 g1 h2 g2) rfl)) (by rfl)
theorem fd_ldc2_w {c : ByteArray} {p : Nat} {v w : Nat} (h0 : fd_b c p = 20) (h1 : fd_b c (p + 1) = v) (g1 : v < 1000) (h2 : fd_b c (p + 2) = w) (g2 : w < 1000) : decode c p = .ok (.ldc2_w (v * 256 + w), 3) := fd_dec (fd_bind (fd_u1 h0 (by decide)) (fd_bind (fd_u2 h1 g1 h2 g2) rfl)) (by rfl)
theorem fd_new {c : ByteArray} {p : Nat} {v w : Nat} (h0 : fd_b c p = 187) (h1 : fd_b c (p + 1) = v) (g1 : v < 1000) (h2 : fd_b c (p + 2) = w) (g2 : w < 1000) : decode c p = .ok (.new (v * 256 + w), 3) := fd_dec (fd_bind (fd_u1 h0 (by decide)) (fd_bind (fd_u2 h1 g1 h2 g2) rfl)) (by rfl)
theorem fd_bipush {c : ByteArray} {p : Nat} {v : Nat} (h0 : fd_b c p = 16) (h1 : fd_b c (p + 1) = v) (g1 : v < 1000) : decode c p = .ok (.bipush (Jvm.ClassFile.Reader.signed 8 v), 2) := fd_dec (fd_bind (fd_u1 h0 (by decide)) (fd_bind (fd_s1 h1 g1) rfl)) (by rfl)
theorem fd_goto {c : ByteArray} {p : Nat} {v w : Nat} (h0 : fd_b c p = 167) (h1 : fd_b c (p + 1) = v) (g1 : v < 1000) (h2 : fd_b c (p + 2) = w) (g2 : w < 1000) : decode c p = .ok (.goto (Jvm.ClassFile.Reader.signed 16 (v * 256 + w)), 3) := fd_dec (fd_bind (fd_u1 h0 (by decide)) (fd_bind (fd_s2 h1 g1 h2 g2) rfl)) (by rfl)
theorem fd_sipush {c : ByteArray} {p : Nat} {v w : Nat} (h0 : fd_b c p = 17) (h1 : fd_b c (p + 1) = v) (g1 : v < 1000) (h2 : fd_b c (p + 2) = w) (g2 : w < 1000) : decode c p = .ok (.sipush (Jvm.ClassFile.Reader.signed 16 (v * 256 + w)), 3) := fd_dec (fd_bind (fd_u1 h0 (by decide)) (fd_bind (fd_s2 h1 g1 h2 g2) rfl)) (by rfl)
theorem fd_ifCond_eq {c : ByteArray} {p : Nat} {v w : Nat} (h0 : fd_b c p = 153) (h1 : fd_b c (p + 1) = v) (g1 : v < 1000) (h2 : fd_b c (p + 2) = w) (g2 : w < 1000) : decode c p = .ok (.ifCond .eq (Jvm.ClassFile.Reader.signed 16 (v * 256 + w)), 3) := fd_dec (fd_bind (fd_u1 h0 (by decide)) (fd_bind (fd_s2 h1 g1 h2 g2) rfl)) (by rfl)
theorem fd_ifCond_ne {c : ByteArray} {p : Nat} {v w : Nat} (h0 : fd_b c p = 154) (h1 : fd_b c (p + 1) = v) (g1 : v < 1000) (h2 : fd_b c (p + 2) = w) (g2 : w < 1000) : decode c p = .ok (.ifCond .ne (Jvm.ClassFile.Reader.signed 16 (v * 256 + w)), 3) := fd_dec (fd_bind (fd_u1 h0 (by decide)) (fd_bind (fd_s2 h1 g1 h2 g2) rfl)) (by rfl)
theorem fd_ifCond_lt {c : ByteArray} {p : Nat} {v w : Nat} (h0 : fd_b c p = 155) (h1 : fd_b c (p + 1) = v) (g1 : v < 1000) (h2 : fd_b c (p + 2) = w) (g2 : w < 1000) : decode c p = .ok (.ifCond .lt (Jvm.ClassFile.Reader.signed 16 (v * 256 + w)), 3) := fd_dec (fd_bind (fd_u1 h0 (by decide)) (fd_bind (fd_s2 h1 g1 h2 g2) rfl)) (by rfl)
theorem fd_ifCond_ge {c : ByteArray} {p : Nat} {v w : Nat} (h0 : fd_b c p = 156) (h1 : fd_b c (p + 1) = v) (g1 : v < 1000) (h2 : fd_b c (p + 2) = w) (g2 : w < 1000) : decode c p = .ok (.ifCond .ge (Jvm.ClassFile.Reader.signed 16 (v * 256 + w)), 3) := fd_dec (fd_bind (fd_u1 h0 (by decide)) (fd_bind (fd_s2 h1 g1 h2 g2) rfl)) (by rfl)
theorem fd_ifCond_gt {c : ByteArray} {p : Nat} {v w : Nat} (h0 : fd_b c p = 157) (h1 : fd_b c (p + 1) = v) (g1 : v < 1000) (h2 : fd_b c (p + 2) = w) (g2 : w < 1000) : decode c p = .ok (.ifCond .gt (Jvm.ClassFile.Reader.signed 16 (v * 256 + w)), 3) := fd_dec (fd_bind (fd_u1 h0 (by decide)) (fd_bind (fd_s2 h1 g1 h2 g2) rfl)) (by rfl)
theorem fd_ifCond_le {c : ByteArray} {p : Nat} {v w : Nat} (h0 : fd_b c p = 158) (h1 : fd_b c (p + 1) = v) (g1 : v < 1000) (h2 : fd_b c (p + 2) = w) (g2 : w < 1000) : decode c p = .ok (.ifCond .le (Jvm.ClassFile.Reader.signed 16 (v * 256 + w)), 3) := fd_dec (fd_bind (fd_u1 h0 (by decide)) (fd_bind (fd_s2 h1 g1 h2 g2) rfl)) (by rfl)
theorem fd_if_icmp_eq {c : ByteArray} {p : Nat} {v w : Nat} (h0 : fd_b c p = 159) (h1 : fd_b c (p + 1) = v) (g1 : v < 1000) (h2 : fd_b c (p + 2) = w) (g2 : w < 1000) : decode c p = .ok (.if_icmp .eq (Jvm.ClassFile.Reader.signed 16 (v * 256 + w)), 3) := fd_dec (fd_bind (fd_u1 h0 (by decide)) (fd_bind (fd_s2 h1 g1 h2 g2) rfl)) (by rfl)
theorem fd_if_icmp_ne {c : ByteArray} {p : Nat} {v w : Nat} (h0 : fd_b c p = 160) (h1 : fd_b c (p + 1) = v) (g1 : v < 1000) (h2 : fd_b c (p + 2) = w) (g2 : w < 1000) : decode c p = .ok (.if_icmp .ne (Jvm.ClassFile.Reader.signed 16 (v * 256 + w)), 3) := fd_dec (fd_bind (fd_u1 h0 (by decide)) (fd_bind (fd_s2 h1 g1 h2 g2) rfl)) (by rfl)
theorem fd_if_icmp_lt {c : ByteArray} {p : Nat} {v w : Nat} (h0 : fd_b c p = 161) (h1 : fd_b c (p + 1) = v) (g1 : v < 1000) (h2 : fd_b c (p + 2) = w) (g2 : w < 1000) : decode c p = .ok (.if_icmp .lt (Jvm.ClassFile.Reader.signed 16 (v * 256 + w)), 3) := fd_dec (fd_bind (fd_u1 h0 (by decide)) (fd_bind (fd_s2 h1 g1 h2 g2) rfl)) (by rfl)
theorem fd_if_icmp_ge {c : ByteArray} {p : Nat} {v w : Nat} (h0 : fd_b c p = 162) (h1 : fd_b c (p + 1) = v) (g1 : v < 1000) (h2 : fd_b c (p + 2) = w) (g2 : w < 1000) : decode c p = .ok (.if_icmp .ge (Jvm.ClassFile.Reader.signed 16 (v * 256 + w)), 3) := fd_dec (fd_bind (fd_u1 h0 (by decide)) (fd_bind (fd_s2 h1 g1 h2 g2) rfl)) (by rfl)
theorem fd_if_icmp_gt {c : ByteArray} {p : Nat} {v w : Nat} (h0 : fd_b c p = 163) (h1 : fd_b c (p + 1) = v) (g1 : v < 1000) (h2 : fd_b c (p + 2) = w) (g2 : w < 1000) : decode c p = .ok (.if_icmp .gt (Jvm.ClassFile.Reader.signed 16 (v * 256 + w)), 3) := fd_dec (fd_bind (fd_u1 h0 (by decide)) (fd_bind (fd_s2 h1 g1 h2 g2) rfl)) (by rfl)
theorem fd_if_icmp_le {c : ByteArray} {p : Nat} {v w : Nat} (h0 : fd_b c p = 164) (h1 : fd_b c (p + 1) = v) (g1 : v < 1000) (h2 : fd_b c (p + 2) = w) (g2 : w < 1000) : decode c p = .ok (.if_icmp .le (Jvm.ClassFile.Reader.signed 16 (v * 256 + w)), 3) := fd_dec (fd_bind (fd_u1 h0 (by decide)) (fd_bind (fd_s2 h1 g1 h2 g2) rfl)) (by rfl)
theorem fd_iinc {c : ByteArray} {p : Nat} {v w : Nat} (h0 : fd_b c p = 132) (h1 : fd_b c (p + 1) = v) (g1 : v < 1000) (h2 : fd_b c (p + 2) = w) (g2 : w < 1000) : decode c p = .ok (.iinc v (Jvm.ClassFile.Reader.signed 8 w), 3) := fd_dec (fd_bind (fd_u1 h0 (by decide)) (fd_bind (fd_u1 h1 g1) (fd_bind (fd_s1 h2 g2) rfl))) (by rfl)
def fd_ck (c : ByteArray) (p : Nat) (i : Instr) (n : Nat) : Bool := match i with
  | .iaload => Nat.beq (fd_b c p) 46 && Nat.beq n 1
  | .ireturn => Nat.beq (fd_b c p) 172 && Nat.beq n 1
  | .iadd => Nat.beq (fd_b c p) 96 && Nat.beq n 1
  | .iastore => Nat.beq (fd_b c p) 79 && Nat.beq n 1
  | .pop => Nat.beq (fd_b c p) 87 && Nat.beq n 1
  | .return_ => Nat.beq (fd_b c p) 177 && Nat.beq n 1
  | .i2l => Nat.beq (fd_b c p) 133 && Nat.beq n 1
  | .dup => Nat.beq (fd_b c p) 89 && Nat.beq n 1
  | .isub => Nat.beq (fd_b c p) 100 && Nat.beq n 1
  | .imul => Nat.beq (fd_b c p) 104 && Nat.beq n 1
  | .lastore => Nat.beq (fd_b c p) 80 && Nat.beq n 1
  | .lcmp => Nat.beq (fd_b c p) 148 && Nat.beq n 1
  | .dup2 => Nat.beq (fd_b c p) 92 && Nat.beq n 1
  | .laload => Nat.beq (fd_b c p) 47 && Nat.beq n 1
  | .ishl => Nat.beq (fd_b c p) 120 && Nat.beq n 1
  | .lreturn => Nat.beq (fd_b c p) 173 && Nat.beq n 1
  | .areturn => Nat.beq (fd_b c p) 176 && Nat.beq n 1
  | .iand => Nat.beq (fd_b c p) 126 && Nat.beq n 1
  | .lsub => Nat.beq (fd_b c p) 101 && Nat.beq n 1
  | .ior => Nat.beq (fd_b c p) 128 && Nat.beq n 1
  | .aload_n k => Nat.beq (fd_b c p) (42 + k.val) && Nat.beq n 1
  | .iload_n k => Nat.beq (fd_b c p) (26 + k.val) && Nat.beq n 1
  | .istore_n k => Nat.beq (fd_b c p) (59 + k.val) && Nat.beq n 1
  | .lload_n k => Nat.beq (fd_b c p) (30 + k.val) && Nat.beq n 1
  | .lconst k => Nat.beq (fd_b c p) (9 + k.val) && Nat.beq n 1
  | .iconst k => Nat.ble 2 (fd_b c p) && Nat.ble (fd_b c p) 8 && decide ((fd_b c p : Int) = k + 3) && Nat.beq n 1
  | .iload k => Nat.beq (fd_b c p) 21 && Nat.beq (fd_b c (p + 1)) k && Nat.ble k 999 && Nat.beq n 2
  | .istore k => Nat.beq (fd_b c p) 54 && Nat.beq (fd_b c (p + 1)) k && Nat.ble k 999 && Nat.beq n 2
  | .ldc k => Nat.beq (fd_b c p) 18 && Nat.beq (fd_b c (p + 1)) k && Nat.ble k 999 && Nat.beq n 2
  | .lload k => Nat.beq (fd_b c p) 22 && Nat.beq (fd_b c (p + 1)) k && Nat.ble k 999 && Nat.beq n 2
  | .aload k => Nat.beq (fd_b c p) 25 && Nat.beq (fd_b c (p + 1)) k && Nat.ble k 999 && Nat.beq n 2
  | .lstore k => Nat.beq (fd_b c p) 55 && Nat.beq (fd_b c (p + 1)) k && Nat.ble k 999 && Nat.beq n 2
  | .getfield k => Nat.beq (fd_b c p) 180 && Nat.beq (fd_b c (p + 1) * 256 + fd_b c (p + 2)) k && Nat.ble (fd_b c (p + 1)) 999 && Nat.ble (fd_b c (p + 2)) 999 && Nat.beq n 3
  | .putfield k => Nat.beq (fd_b c p) 181 && Nat.beq (fd_b c (p + 1) * 256 + fd_b c (p + 2)) k && Nat.ble (fd_b c (p + 1)) 999 && Nat.ble (fd_b c (p + 2)) 999 && Nat.beq n 3
  | .invokevirtual k => Nat.beq (fd_b c p) 182 && Nat.beq (fd_b c (p + 1) * 256 + fd_b c (p + 2)) k && Nat.ble (fd_b c (p + 1)) 999 && Nat.ble (fd_b c (p + 2)) 999 && Nat.beq n 3
  | .invokestatic k => Nat.beq (fd_b c p) 184 && Nat.beq (fd_b c (p + 1) * 256 + fd_b c (p + 2)) k && Nat.ble (fd_b c (p + 1)) 999 && Nat.ble (fd_b c (p + 2)) 999 && Nat.beq n 3
  | .invokespecial k => Nat.beq (fd_b c p) 183 && Nat.beq (fd_b c (p + 1) * 256 + fd_b c (p + 2)) k && Nat.ble (fd_b c (p + 1)) 999 && Nat.ble (fd_b c (p + 2)) 999 && Nat.beq n 3
  | .ldc2_w k => Nat.beq (fd_b c p) 20 && Nat.beq (fd_b c (p + 1) * 256 + fd_b c (p + 2)) k && Nat.ble (fd_b c (p + 1)) 999 && Nat.ble (fd_b c (p + 2)) 999 && Nat.beq n 3
  | .new k => Nat.beq (fd_b c p) 187 && Nat.beq (fd_b c (p + 1) * 256 + fd_b c (p + 2)) k && Nat.ble (fd_b c (p + 1)) 999 && Nat.ble (fd_b c (p + 2)) 999 && Nat.beq n 3
  | .bipush k => Nat.beq (fd_b c p) 16 && decide (Jvm.ClassFile.Reader.signed 8 (fd_b c (p + 1)) = k) && Nat.ble (fd_b c (p + 1)) 999 && Nat.beq n 2
  | .goto k => Nat.beq (fd_b c p) 167 && decide (Jvm.ClassFile.Reader.signed 16 (fd_b c (p + 1) * 256 + fd_b c (p + 2)) = k) && Nat.ble (fd_b c (p + 1)) 999 && Nat.ble (fd_b c (p + 2)) 999 && Nat.beq n 3
  | .sipush k => Nat.beq (fd_b c p) 17 && decide (Jvm.ClassFile.Reader.signed 16 (fd_b c (p + 1) * 256 + fd_b c (p + 2)) = k) && Nat.ble (fd_b c (p + 1)) 999 && Nat.ble (fd_b c (p + 2)) 999 && Nat.beq n 3
  | .ifCond q k => Nat.beq (fd_b c p) (match q with | .eq => 153 | .ne => 154 | .lt => 155 | .ge => 156 | .gt => 157 | .le => 158) && decide (Jvm.ClassFile.Reader.signed 16 (fd_b c (p + 1) * 256 + fd_b c (p + 2)) = k) && Nat.ble (fd_b c (p + 1)) 999 && Nat.ble (fd_b c (p + 2)) 999 && Nat.beq n 3
  | .if_icmp q k => Nat.beq (fd_b c p) (match q with | .eq => 159 | .ne => 160 | .lt => 161 | .ge => 162 | .gt => 163 | .le => 164) && decide (Jvm.ClassFile.Reader.signed 16 (fd_b c (p + 1) * 256 + fd_b c (p + 2)) = k) && Nat.ble (fd_b c (p + 1)) 999 && Nat.ble (fd_b c (p + 2)) 999 && Nat.beq n 3
  | .iinc k j => Nat.beq (fd_b c p) 132 && Nat.beq (fd_b c (p + 1)) k && decide (Jvm.ClassFile.Reader.signed 8 (fd_b c (p + 2)) = j) && Nat.ble (fd_b c (p + 1)) 999 && Nat.ble (fd_b c (p + 2)) 999 && Nat.beq n 3
  | i => decide (decode c p = .ok (i, n))
theorem fd_ck_ok {c : ByteArray} {p : Nat} {i : Instr} {n : Nat} (h : fd_ck c p i n = true) : decode c p = .ok (i, n) := by
  unfold fd_ck at h
  split at h
  · simp only [Bool.and_eq_true, Nat.beq_eq, Nat.ble_eq, decide_eq_true_eq] at h
    rw [h.2]; exact fd_iaload h.1
  · simp only [Bool.and_eq_true, Nat.beq_eq, Nat.ble_eq, decide_eq_true_eq] at h
    rw [h.2]; exact fd_ireturn h.1
  · simp only [Bool.and_eq_true, Nat.beq_eq, Nat.ble_eq, decide_eq_true_eq] at h
    rw [h.2]; exact fd_iadd h.1
  · simp only [Bool.and_eq_true, Nat.beq_eq, Nat.ble_eq, decide_eq_true_eq] at h
    rw [h.2]; exact fd_iastore h.1
  · simp only [Bool.and_eq_true, Nat.beq_eq, Nat.ble_eq, decide_eq_true_eq] at h
    rw [h.2]; exact fd_pop h.1
  · simp only [Bool.and_eq_true, Nat.beq_eq, Nat.ble_eq, decide_eq_true_eq] at h
    rw [h.2]; exact fd_return_ h.1
  · simp only [Bool.and_eq_true, Nat.beq_eq, Nat.ble_eq, decide_eq_true_eq] at h
    rw [h.2]; exact fd_i2l h.1
  · simp only [Bool.and_eq_true, Nat.beq_eq, Nat.ble_eq, decide_eq_true_eq] at h
    rw [h.2]; exact fd_dup h.1
  · simp only [Bool.and_eq_true, Nat.beq_eq, Nat.ble_eq, decide_eq_true_eq] at h
    rw [h.2]; exact fd_isub h.1
  · simp only [Bool.and_eq_true, Nat.beq_eq, Nat.ble_eq, decide_eq_true_eq] at h
    rw [h.2]; exact fd_imul h.1
  · simp only [Bool.and_eq_true, Nat.beq_eq, Nat.ble_eq, decide_eq_true_eq] at h
    rw [h.2]; exact fd_lastore h.1
  · simp only [Bool.and_eq_true, Nat.beq_eq, Nat.ble_eq, decide_eq_true_eq] at h
    rw [h.2]; exact fd_lcmp h.1
  · simp only [Bool.and_eq_true, Nat.beq_eq, Nat.ble_eq, decide_eq_true_eq] at h
    rw [h.2]; exact fd_dup2 h.1
  · simp only [Bool.and_eq_true, Nat.beq_eq, Nat.ble_eq, decide_eq_true_eq] at h
    rw [h.2]; exact fd_laload h.1
  · simp only [Bool.and_eq_true, Nat.beq_eq, Nat.ble_eq, decide_eq_true_eq] at h
    rw [h.2]; exact fd_ishl h.1
  · simp only [Bool.and_eq_true, Nat.beq_eq, Nat.ble_eq, decide_eq_true_eq] at h
    rw [h.2]; exact fd_lreturn h.1
  · simp only [Bool.and_eq_true, Nat.beq_eq, Nat.ble_eq, decide_eq_true_eq] at h
    rw [h.2]; exact fd_areturn h.1
  · simp only [Bool.and_eq_true, Nat.beq_eq, Nat.ble_eq, decide_eq_true_eq] at h
    rw [h.2]; exact fd_iand h.1
  · simp only [Bool.and_eq_true, Nat.beq_eq, Nat.ble_eq, decide_eq_true_eq] at h
    rw [h.2]; exact fd_lsub h.1
  · simp only [Bool.and_eq_true, Nat.beq_eq, Nat.ble_eq, decide_eq_true_eq] at h
    rw [h.2]; exact fd_ior h.1
  · simp only [Bool.and_eq_true, Nat.beq_eq, Nat.ble_eq, decide_eq_true_eq] at h
    rename_i k
    rw [h.2]
    obtain ⟨k, hk⟩ := k
    have h1 := h.1
    dsimp only at h1
    rcases (show k = 0 ∨ k = 1 ∨ k = 2 ∨ k = 3 by omega) with rfl | rfl | rfl | rfl
    · exact fd_aload_n0 h1
    · exact fd_aload_n1 h1
    · exact fd_aload_n2 h1
    · exact fd_aload_n3 h1
  · simp only [Bool.and_eq_true, Nat.beq_eq, Nat.ble_eq, decide_eq_true_eq] at h
    rename_i k
    rw [h.2]
    obtain ⟨k, hk⟩ := k
    have h1 := h.1
    dsimp only at h1
    rcases (show k = 0 ∨ k = 1 ∨ k = 2 ∨ k = 3 by omega) with rfl | rfl | rfl | rfl
    · exact fd_iload_n0 h1
    · exact fd_iload_n1 h1
    · exact fd_iload_n2 h1
    · exact fd_iload_n3 h1
  · simp only [Bool.and_eq_true, Nat.beq_eq, Nat.ble_eq, decide_eq_true_eq] at h
    rename_i k
    rw [h.2]
    obtain ⟨k, hk⟩ := k
    have h1 := h.1
    dsimp only at h1
    rcases (show k = 0 ∨ k = 1 ∨ k = 2 ∨ k = 3 by omega) with rfl | rfl | rfl | rfl
    · exact fd_istore_n0 h1
    · exact fd_istore_n1 h1
    · exact fd_istore_n2 h1
    · exact fd_istore_n3 h1
  · simp only [Bool.and_eq_true, Nat.beq_eq, Nat.ble_eq, decide_eq_true_eq] at h
    rename_i k
    rw [h.2]
    obtain ⟨k, hk⟩ := k
    have h1 := h.1
    dsimp only at h1
    rcases (show k = 0 ∨ k = 1 ∨ k = 2 ∨ k = 3 by omega) with rfl | rfl | rfl | rfl
    · exact fd_lload_n0 h1
    · exact fd_lload_n1 h1
    · exact fd_lload_n2 h1
    · exact fd_lload_n3 h1
  · simp only [Bool.and_eq_true, Nat.beq_eq, Nat.ble_eq, decide_eq_true_eq] at h
    rename_i k
    rw [h.2]
    obtain ⟨k, hk⟩ := k
    have h1 := h.1
    dsimp only at h1
    rcases (show k = 0 ∨ k = 1 by omega) with rfl | rfl
    · exact fd_lconst0 h1
    · exact fd_lconst1 h1
  · simp only [Bool.and_eq_true, Nat.beq_eq, Nat.ble_eq, decide_eq_true_eq] at h
    rename_i k
    obtain ⟨⟨⟨h1, h2⟩, h3⟩, h4⟩ := h
    rw [h4]
    rcases (show (fd_b c p = 2 ∧ k = -1) ∨ (fd_b c p = 3 ∧ k = 0) ∨ (fd_b c p = 4 ∧ k = 1) ∨ (fd_b c p = 5 ∧ k = 2) ∨ (fd_b c p = 6 ∧ k = 3) ∨ (fd_b c p = 7 ∧ k = 4) ∨ (fd_b c p = 8 ∧ k = 5) by omega) with ⟨e, rfl⟩ | ⟨e, rfl⟩ | ⟨e, rfl⟩ | ⟨e, rfl⟩ | ⟨e, rfl⟩ | ⟨e, rfl⟩ | ⟨e, rfl⟩
    · exact fd_iconstm1 e
    · exact fd_iconst0 e
    · exact fd_iconst1 e
    · exact fd_iconst2 e
    · exact fd_iconst3 e
    · exact fd_iconst4 e
    · exact fd_iconst5 e
  · simp only [Bool.and_eq_true, Nat.beq_eq, Nat.ble_eq, decide_eq_true_eq] at h
    obtain ⟨⟨⟨h1, h2⟩, h3⟩, h4⟩ := h
    rw [h4]
    exact fd_iload h1 h2 (by omega)
  · simp only [Bool.and_eq_true, Nat.beq_eq, Nat.ble_eq, decide_eq_true_eq] at h
    obtain ⟨⟨⟨h1, h2⟩, h3⟩, h4⟩ := h
    rw [h4]
    exact fd_istore h1 h2 (by omega)
  · simp only [Bool.and_eq_true, Nat.beq_eq, Nat.ble_eq, decide_eq_true_eq] at h
    obtain ⟨⟨⟨h1, h2⟩, h3⟩, h4⟩ := h
    rw [h4]
    exact fd_ldc h1 h2 (by omega)
  · simp only [Bool.and_eq_true, Nat.beq_eq, Nat.ble_eq, decide_eq_true_eq] at h
    obtain ⟨⟨⟨h1, h2⟩, h3⟩, h4⟩ := h
    rw [h4]
    exact fd_lload h1 h2 (by omega)
  · simp only [Bool.and_eq_true, Nat.beq_eq, Nat.ble_eq, decide_eq_true_eq] at h
    obtain ⟨⟨⟨h1, h2⟩, h3⟩, h4⟩ := h
    rw [h4]
    exact fd_aload h1 h2 (by omega)
  · simp only [Bool.and_eq_true, Nat.beq_eq, Nat.ble_eq, decide_eq_true_eq] at h
    obtain ⟨⟨⟨h1, h2⟩, h3⟩, h4⟩ := h
    rw [h4]
    exact fd_lstore h1 h2 (by omega)
  · simp only [Bool.and_eq_true, Nat.beq_eq, Nat.ble_eq, decide_eq_true_eq] at h
    obtain ⟨⟨⟨⟨h1, h2⟩, h3⟩, h5⟩, h4⟩ := h
    rw [h4, ← h2]
    exact fd_getfield h1 rfl (by omega) rfl (by omega)
  · simp only [Bool.and_eq_true, Nat.beq_eq, Nat.ble_eq, decide_eq_true_eq] at h
    obtain ⟨⟨⟨⟨h1, h2⟩, h3⟩, h5⟩, h4⟩ := h
    rw [h4, ← h2]
    exact fd_putfield h1 rfl (by omega) rfl (by omega)
  · simp only [Bool.and_eq_true, Nat.beq_eq, Nat.ble_eq, decide_eq_true_eq] at h
    obtain ⟨⟨⟨⟨h1, h2⟩, h3⟩, h5⟩, h4⟩ := h
    rw [h4, ← h2]
    exact fd_invokevirtual h1 rfl (by omega) rfl (by omega)
  · simp only [Bool.and_eq_true, Nat.beq_eq, Nat.ble_eq, decide_eq_true_eq] at h
    obtain ⟨⟨⟨⟨h1, h2⟩, h3⟩, h5⟩, h4⟩ := h
    rw [h4, ← h2]
    exact fd_invokestatic h1 rfl (by omega) rfl (by omega)
  · simp only [Bool.and_eq_true, Nat.beq_eq, Nat.ble_eq, decide_eq_true_eq] at h
    obtain ⟨⟨⟨⟨h1, h2⟩, h3⟩, h5⟩, h4⟩ := h
    rw [h4, ← h2]
    exact fd_invokespecial h1 rfl (by omega) rfl (by omega)
  · simp only [Bool.and_eq_true, Nat.beq_eq, Nat.ble_eq, decide_eq_true_eq] at h
    obtain ⟨⟨⟨⟨h1, h2⟩, h3⟩, h5⟩, h4⟩ := h
    rw [h4, ← h2]
    exact fd_ldc2_w h1 rfl (by omega) rfl (by omega)
  · simp only [Bool.and_eq_true, Nat.beq_eq, Nat.ble_eq, decide_eq_true_eq] at h
    obtain ⟨⟨⟨⟨h1, h2⟩, h3⟩, h5⟩, h4⟩ := h
    rw [h4, ← h2]
    exact fd_new h1 rfl (by omega) rfl (by omega)
  · simp only [Bool.and_eq_true, Nat.beq_eq, Nat.ble_eq, decide_eq_true_eq] at h
    obtain ⟨⟨⟨h1, h2⟩, h3⟩, h4⟩ := h
    rw [h4, ← h2]
    exact fd_bipush h1 rfl (by omega)
  · simp only [Bool.and_eq_true, Nat.beq_eq, Nat.ble_eq, decide_eq_true_eq] at h
    obtain ⟨⟨⟨⟨h1, h2⟩, h3⟩, h5⟩, h4⟩ := h
    rw [h4, ← h2]
    exact fd_goto h1 rfl (by omega) rfl (by omega)
  · simp only [Bool.and_eq_true, Nat.beq_eq, Nat.ble_eq, decide_eq_true_eq] at h
    obtain ⟨⟨⟨⟨h1, h2⟩, h3⟩, h5⟩, h4⟩ := h
    rw [h4, ← h2]
    exact fd_sipush h1 rfl (by omega) rfl (by omega)
  · simp only [Bool.and_eq_true, Nat.beq_eq, Nat.ble_eq, decide_eq_true_eq] at h
    rename_i q k
    obtain ⟨⟨⟨⟨h1, h2⟩, h3⟩, h5⟩, h4⟩ := h
    rw [h4, ← h2]
    cases q
    case eq => exact fd_ifCond_eq h1 rfl (by omega) rfl (by omega)
    case ne => exact fd_ifCond_ne h1 rfl (by omega) rfl (by omega)
    case lt => exact fd_ifCond_lt h1 rfl (by omega) rfl (by omega)
    case ge => exact fd_ifCond_ge h1 rfl (by omega) rfl (by omega)
    case gt => exact fd_ifCond_gt h1 rfl (by omega) rfl (by omega)
    case le => exact fd_ifCond_le h1 rfl (by omega) rfl (by omega)
  · simp only [Bool.and_eq_true, Nat.beq_eq, Nat.ble_eq, decide_eq_true_eq] at h
    rename_i q k
    obtain ⟨⟨⟨⟨h1, h2⟩, h3⟩, h5⟩, h4⟩ := h
    rw [h4, ← h2]
    cases q
    case eq => exact fd_if_icmp_eq h1 rfl (by omega) rfl (by omega)
    case ne => exact fd_if_icmp_ne h1 rfl (by omega) rfl (by omega)
    case lt => exact fd_if_icmp_lt h1 rfl (by omega) rfl (by omega)
    case ge => exact fd_if_icmp_ge h1 rfl (by omega) rfl (by omega)
    case gt => exact fd_if_icmp_gt h1 rfl (by omega) rfl (by omega)
    case le => exact fd_if_icmp_le h1 rfl (by omega) rfl (by omega)
  · simp only [Bool.and_eq_true, Nat.beq_eq, Nat.ble_eq, decide_eq_true_eq] at h
    obtain ⟨⟨⟨⟨⟨h1, h2⟩, h3⟩, h5⟩, h6⟩, h4⟩ := h
    rw [h4, ← h3]
    exact fd_iinc h1 h2 (by omega) rfl (by omega)
  · exact of_decide_eq_true h
/-! ===== quick looks into the long tables ===== -/
def en_pk {α : Type} : List (Nat × List α) → Nat → Option α
  | [], _ => none
  | q :: r, c => if Nat.blt c q.1 then q.2[c]? else en_pk r (c - q.1)
theorem en_pk_ok {α : Type} : ∀ {ls : List (Nat × List α)} (c : Nat), (∀ q ∈ ls, q.2.length = q.1) → en_pk ls c = ((ls.map (fun q => q.2)).flatten)[c]?
  | [], c, h => by simp [en_pk]
  | q :: r, c, h => by
    have hq := h q (List.mem_cons_self ..)
    unfold en_pk
    rw [List.map_cons, List.flatten_cons]
    cases hb : Nat.blt c q.1 with
    | true =>
      have hc : c < q.1 := Nat.le_of_ble_eq_true hb
      rw [if_pos rfl, List.getElem?_append_left (by omega)]
    | false =>
      have hc : ¬ c < q.1 := fun k => by rw [show Nat.blt c q.1 = true from Nat.ble_eq_true_of_le k] at hb; cases hb
      rw [if_neg (by decide), List.getElem?_append_right (by omega), hq]
      exact en_pk_ok (c - q.1) (fun z hz => h z (List.mem_cons_of_mem _ hz))
def en_wF_t : List (Nat × List Cond) := [(240, tables_1_1), (240, tables_1_2), (240, tables_1_3), (240, tables_1_4), (240, tables_1_5), (240, tables_1_6), (240, tables_1_7), (113, tables_1_8)]
theorem en_wF_l_tables_1_1 : tables_1_1.length = 240 := by decide +kernel
theorem en_wF_l_tables_1_2 : tables_1_2.length = 240 := by decide +kernel
theorem en_wF_l_tables_1_3 : tables_1_3.length = 240 := by decide +kernel
theorem en_wF_l_tables_1_4 : tables_1_4.length = 240 := by decide +kernel
theorem en_wF_l_tables_1_5 : tables_1_5.length = 240 := by decide +kernel
theorem en_wF_l_tables_1_6 : tables_1_6.length = 240 := by decide +kernel
theorem en_wF_l_tables_1_7 : tables_1_7.length = 240 := by decide +kernel
theorem en_wF_l_tables_1_8 : tables_1_8.length = 113 := by decide +kernel
def en_wF (c : Nat) : Option Cond := en_pk en_wF_t c
theorem en_wF_ok (c : Nat) : en_wF c = tables_1[c]? := by
  unfold en_wF
  rw [en_pk_ok c (fun q hq => by
    unfold en_wF_t at hq
    simp only [List.mem_cons, List.not_mem_nil, or_false] at hq
    rcases hq with rfl | rfl | rfl | rfl | rfl | rfl | rfl | rfl
    · exact en_wF_l_tables_1_1
    · exact en_wF_l_tables_1_2
    · exact en_wF_l_tables_1_3
    · exact en_wF_l_tables_1_4
    · exact en_wF_l_tables_1_5
    · exact en_wF_l_tables_1_6
    · exact en_wF_l_tables_1_7
    · exact en_wF_l_tables_1_8
    )]
  unfold en_wF_t tables_1
  simp only [List.map_cons, List.map_nil, List.flatten_cons, List.flatten_nil, List.append_nil]
def en_isF_t : List (Nat × List en_I0) := [(40, en_IS_0), (40, en_IS_1), (40, en_IS_2), (40, en_IS_3), (40, en_IS_4), (40, en_IS_5), (27, en_IS_6)]
theorem en_isF_l_en_IS_0 : en_IS_0.length = 40 := by decide +kernel
theorem en_isF_l_en_IS_1 : en_IS_1.length = 40 := by decide +kernel
theorem en_isF_l_en_IS_2 : en_IS_2.length = 40 := by decide +kernel
theorem en_isF_l_en_IS_3 : en_IS_3.length = 40 := by decide +kernel
theorem en_isF_l_en_IS_4 : en_IS_4.length = 40 := by decide +kernel
theorem en_isF_l_en_IS_5 : en_IS_5.length = 40 := by decide +kernel
theorem en_isF_l_en_IS_6 : en_IS_6.length = 27 := by decide +kernel
def en_isF (c : Nat) : Option en_I0 := en_pk en_isF_t c
theorem en_isF_ok (c : Nat) : en_isF c = en_IS[c]? := by
  unfold en_isF
  rw [en_pk_ok c (fun q hq => by
    unfold en_isF_t at hq
    simp only [List.mem_cons, List.not_mem_nil, or_false] at hq
    rcases hq with rfl | rfl | rfl | rfl | rfl | rfl | rfl
    · exact en_isF_l_en_IS_0
    · exact en_isF_l_en_IS_1
    · exact en_isF_l_en_IS_2
    · exact en_isF_l_en_IS_3
    · exact en_isF_l_en_IS_4
    · exact en_isF_l_en_IS_5
    · exact en_isF_l_en_IS_6
    )]
  unfold en_isF_t en_IS
  simp only [List.map_cons, List.map_nil, List.flatten_cons, List.flatten_nil, List.append_nil]
theorem en_tbK : (k2_sels lw_privs).length = 108 := by decide +kernel
def en_tbF (c : Nat) : Option Cond := if Nat.blt c 108 then (k2_sels lw_privs)[c]? else en_wF (c - 108)
theorem en_tbF_ok (c : Nat) : en_tbF c = lw_tbl[c]? := by
  unfold en_tbF lw_tbl
  have hK := en_tbK
  cases hb : Nat.blt c 108 with
  | true =>
    have hc : c < 108 := Nat.le_of_ble_eq_true hb
    rw [if_pos rfl, List.getElem?_append_left (by omega)]
  | false =>
    have hc : ¬ c < 108 := fun k => by rw [show Nat.blt c 108 = true from Nat.ble_eq_true_of_le k] at hb; cases hb
    rw [if_neg (by decide), List.getElem?_append_right (by omega), en_wF_ok, hK]
def en_okcG (w : Nat → Option Cond) (is : Nat → Option en_I0) (I : en_I) (idx a b c : Nat) (k : Nat) : Bool := match is a with
  | some J => decide ((parseMethodDescriptor J.1.desc).map (fun d => d.parameters.length) = some (b - k)) && decide (k ≤ b) && decide (J.2.2.1 ≤ 45) && decide (J.2.2.2.2.2 + k = 1) && (if c < 5000 then decide (w c = some (.methodLink I.1.cls idx J.1)) else decide (en_nest[c - 5000]? = some (I.1.cls, idx, J.1, "LeftHands")))
  | none => false
def en_okwG (w : Nat → Option Cond) (is : Nat → Option en_I0) (I : en_I) (i : Instr) (pc a b c : Nat) : Bool := match i with
  | .istore_n k => decide (k.val < I.2.2.1)
  | .astore_n k => decide (k.val < I.2.2.1)
  | .lstore_n k => decide (k.val + 1 < I.2.2.1)
  | .istore k => decide (k < I.2.2.1)
  | .astore k => decide (k < I.2.2.1)
  | .lstore k => decide (k + 1 < I.2.2.1)
  | .iinc k _ => decide (k < I.2.2.1)
  | .ldc idx => if a = 1 then decide (w c = some (.constant I.1.cls idx (Int32.ofNat b))) else decide (b < 1000) && decide ((en_str[b]?).map (fun q => (q.1, q.2.1)) = some (I.1.cls, idx))
  | .ldc_w idx => decide (w c = some (.constant I.1.cls idx (Int32.ofNat b)))
  | .ldc2_w idx => decide (w c = some (.constantLong I.1.cls idx (Int64.ofNat b)))
  | .getfield idx => match en_cl[a]? with
    | some q => decide (b < q.2.2) && decide ((q.2.1 b).1 = q.1) && decide (w c = some (.fieldLink I.1.cls idx q.1 (q.2.1 b).2.1 (q.2.1 b).2.2.1))
    | none => false
  | .putfield idx => match en_cl[a]? with
    | some q => decide (b < q.2.2) && decide ((q.2.1 b).1 = q.1) && decide (w c = some (.fieldLink I.1.cls idx q.1 (q.2.1 b).2.1 (q.2.1 b).2.2.1)) && (if (q.2.1 b).2.2.2 = true then decide (I.1.name = "<init>") && decide (q.1 = I.1.cls) else true)
    | none => false
  | .new idx => match en_cl[a]? with
    | some q => decide (w c = some (.classLink I.1.cls idx q.1))
    | none => false
  | .anewarray idx => if a = 3 then decide (w c = some (.classLink I.1.cls idx "LeftHands$Law")) else decide (a = 4) && decide (w c = some (.classLink I.1.cls idx "LeftHands$Bazaar"))
  | .goto off => decide ((pc : Int) + off = (a : Int))
  | .ifCond _ off => decide ((pc : Int) + off = (a : Int))
  | .if_icmp _ off => decide ((pc : Int) + off = (a : Int))
  | .ifnull off => decide ((pc : Int) + off = (a : Int))
  | .ifnonnull off => decide ((pc : Int) + off = (a : Int))
  | .tableswitch d _ _ offs => decide (0 ≤ (pc : Int) + d) && offs.toList.all (fun o => decide (0 ≤ (pc : Int) + o))
  | .invokevirtual idx => if a < 900 then decide (a < 900) && en_okcG w is I idx a b c 1 && decide ((is a).map (fun J => decide (J.1.name = "<init>")) = some false) else
      if a = 906 then decide (w c = some (.methodLink I.1.cls idx sn_le)) else
      if a = 907 then decide (w c = some (.methodLink I.1.cls idx sn_ca)) else false
  | .invokestatic idx => if a < 900 then en_okcG w is I idx a b c 0 else
      if a = 901 then decide (w c = some (.methodLink I.1.cls idx arraycopyName)) else
      if a = 902 then decide (w c = some (.methodLink I.1.cls idx Lib.Math.max.name)) else
      if a = 903 then decide (w c = some (.methodLink I.1.cls idx Lib.Math.min.name)) else
      if a = 904 then decide (w c = some (.methodLink I.1.cls idx Lib.MathLoose.max_long.x)) else
      if a = 905 then decide (w c = some (.methodLink I.1.cls idx Lib.MathLoose.min_long.x)) else false
  | .invokespecial idx => if a < 900 then en_okcG w is I idx a b c 1 && decide ((is a).map (fun J => (J.1.name, J.2.2.2.1)) = some ("<init>", none)) else decide (a = 900) && decide (w c = some (.methodLink I.1.cls idx Lib.objectInit))
  | _ => true
def en_okJG (w tb : Nat → Option Cond) (cd : Bool) (J : en_I) (q : Nat × Nat × Nat × Nat) : Bool := plainName J.1.cls && decide (J.1.cls ≠ "java/lang/invoke/MethodHandle") && decide (J.1.cls ≠ "java/lang/invoke/VarHandle") && cd && decide (w q.2.2.2 = some (.initialized J.1.cls)) &&
  (if J.2.2.2.2.2 = 1 then decide (w q.2.1 = some (.static J.1)) else decide (J.2.2.2.2.2 = 0) && decide (w q.2.1 = some (.instanceMethod J.1)) && decide ((en_cl[J.2.2.2.2.1]?).map (fun r => r.1) = some J.1.cls) && (if J.1.name = "<init>" then true else decide (tb q.2.2.1 = some (.selects J.1.cls J.1 J.1))))
theorem en_wF_e : en_wF = en_w := funext (fun c => en_wF_ok c)
theorem en_wF_ok' (c : Nat) : en_wF c = en_w c := en_wF_ok c
theorem en_isF_e : en_isF = fun a => en_IS[a]? := funext en_isF_ok
theorem en_tbF_e : en_tbF = fun c => lw_tbl[c]? := funext en_tbF_ok
theorem en_okwF_ok (I : en_I) (i : Instr) (pc a b c : Nat) : en_okwG en_wF en_isF I i pc a b c = en_okw I i pc a b c := by
  rw [en_wF_e, en_isF_e]
  cases i <;> rfl
theorem en_okJF_ok {J : en_I} {q : Nat × Nat × Nat × Nat} (hc : en_wF q.1 = some (.code J.1 J.2.1 J.2.2.1 J.2.2.2.1)) (h : en_okJG en_wF en_tbF true J q = true) : en_okJ J q = true := by
  have e : en_okJG en_w (fun c => lw_tbl[c]?) (decide (en_w q.1 = some (.code J.1 J.2.1 J.2.2.1 J.2.2.2.1))) J q = en_okJ J q := rfl
  rw [← e, decide_eq_true (by rw [← en_wF_ok' q.1]; exact hc), ← en_wF_e, ← en_tbF_e]
  exact h
def en_ck (i : Nat) (bs : en_Bs) : Bool := match en_IS[i]?, en_ps[i]? with
  | some J, some q => en_okJ J q && en_okB J bs
  | _, _ => false
def en_okopF (I : en_I) (pc : Nat) (op : en_Op) : Bool := fd_ck I.2.1 pc op.1 op.2.1 && en_lnok op.1 op.2.1 && en_okwG en_wF en_isF I op.1 pc op.2.2.1 op.2.2.2.1 op.2.2.2.2
def en_okbF (I : en_I) : Nat → List en_Op → Bool
  | _, [] => true
  | pc, op :: r => en_okopF I pc op && en_okbF I (pc + op.2.1) r
def en_okBF (I : en_I) (bs : en_Bs) : Bool := bs.all (fun q => en_okbF I q.1 q.2)
theorem en_okopF_ok {I : en_I} {pc : Nat} {op : en_Op} (h : en_okopF I pc op = true) : en_okop I pc op = true := by
  unfold en_okopF at h
  unfold en_okop
  rw [Bool.and_eq_true, Bool.and_eq_true] at h
  rw [Bool.and_eq_true, Bool.and_eq_true]
  exact ⟨⟨decide_eq_true (fd_ck_ok h.1.1), h.1.2⟩, by rw [← en_okwF_ok]; exact h.2⟩
theorem en_okbF_ok {I : en_I} : ∀ {ops : List en_Op} {pc : Nat}, en_okbF I pc ops = true → en_okb I pc ops = true
  | [], _, _ => rfl
  | op :: r, pc, h => by
    unfold en_okbF at h
    rw [Bool.and_eq_true] at h
    unfold en_okb
    rw [Bool.and_eq_true]
    exact ⟨en_okopF_ok h.1, en_okbF_ok h.2⟩
theorem en_okBF_ok {I : en_I} {bs : en_Bs} (h : en_okBF I bs = true) : en_okB I bs = true := by
  unfold en_okBF at h
  unfold en_okB
  rw [List.all_eq_true] at h ⊢
  exact fun q hq => en_okbF_ok (h q hq)
def en_ckF (i : Nat) (bs : en_Bs) : Bool := match en_isF i, en_ps[i]? with
  | some J, some q => en_okJG en_wF en_tbF true J q && en_okBF J bs
  | _, _ => false
theorem en_ckF_ok {i : Nat} {bs : en_Bs} {J : en_I0} {q : Nat × Nat × Nat × Nat} (e1 : en_isF i = some J) (e2 : en_ps[i]? = some q) (hc : en_wF q.1 = some (.code J.1 J.2.1 J.2.2.1 J.2.2.2.1)) (h : en_ckF i bs = true) : en_ck i bs = true := by
  unfold en_ckF at h
  unfold en_ck
  rw [en_isF_ok] at h e1
  rw [e1, e2] at h ⊢
  dsimp only at h ⊢
  rw [Bool.and_eq_true] at h ⊢
  exact ⟨en_okJF_ok hc h.1, en_okBF_ok h.2⟩
