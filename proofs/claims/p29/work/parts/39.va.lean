/-! ===== a machine over tokens, with a pile and code: turns as above (0 PLAIN, 1 PART, 2 TOLD, 3 SUMMED, 6 CLAUSE, 7 behind a SUM, 8 behind a CLAUSE, 9 read), 5 stuck; pile of (what, place): 20 .. 29 as the reference has them, 30 (, 31 [, 33 the SUM itself, 34 the TEST itself ===== -/
def updG (f : Int → Int) (i v : Int) : Int → Int := fun j => if j = i then v else f j
theorem updG_q {f : Int → Int} {i v j : Int} (h : j = i) : updG f i v j = v := if_pos h
theorem updG_n {f : Int → Int} {i v j : Int} (h : j ≠ i) : updG f i v j = f j := if_neg h
/-- how strongly what stands on the pile binds -/
def bdn (o : Int) : Int := if 30 ≤ o then 0 else if o = 29 then 1 else if o = 28 then 2 else if o = 27 then 3 else if 24 ≤ o then 4 else if 22 ≤ o then 6 else 5
def hdo : List (Int × Int) → Int
  | [] => 34
  | f :: _ => f.1
def hda : List (Int × Int) → Int
  | [] => 0
  | f :: _ => f.2
def tlo : List (Int × Int) → List (Int × Int)
  | [] => []
  | _ :: R => R
theorem hdo_c (f : Int × Int) (R : List (Int × Int)) : hdo (f :: R) = f.1 := rfl
theorem hda_c (f : Int × Int) (R : List (Int × Int)) : hda (f :: R) = f.2 := rfl
theorem tlo_c (f : Int × Int) (R : List (Int × Int)) : tlo (f :: R) = R := rfl
/-- the latest clause's last number is told -/
abbrev CLR : Type := Int × Int × Int × Int
def lstC (m e : Int) : List CLR → List CLR
  | [] => []
  | (h, a, _, _) :: R => (h, a, m, e) :: R
def lstM : List CLR → Int
  | [] => 0
  | (_, _, m, _) :: _ => m
abbrev CG : Type := Int × List (Int × Int) × Int × (Int → Int) × (Int → Int) × List CLR × Int
def BADG : CG := (5, [], 0, fun _ => 0, fun _ => 0, [], 0)
/-- how strongly the pile's top must bind to be settled ahead of a token -/
def lea (t c : Int) : Int := if t = 3 then (if 22 ≤ c ∧ c ≤ 23 then 6 else 5) else if c = 28 then 2 else 1
/-- the top of the pile is settled -/
def popg (z : CG) : CG :=
  if hdo z.2.1 = 28 ∨ hdo z.2.1 = 29 then (z.1, tlo z.2.1, z.2.2.1, z.2.2.2.1, updG z.2.2.2.2.1 (hda z.2.1) z.2.2.1, z.2.2.2.2.2.1, z.2.2.2.2.2.2)
  else (z.1, tlo z.2.1, z.2.2.1 + 1, updG z.2.2.2.1 z.2.2.1 (hdo z.2.1), updG z.2.2.2.2.1 z.2.2.1 0, z.2.2.2.2.2.1, z.2.2.2.2.2.2)
def stg (c q : Int) (z : CG) : CG :=
  if z.1 = 0 ∧ c = 1 then (0, (27, 0) :: z.2.1, z.2.2.1, z.2.2.2.1, z.2.2.2.2.1, z.2.2.2.2.2.1, q)
  else if z.1 = 0 ∧ c = 2 then (0, (30, 0) :: z.2.1, z.2.2.1, z.2.2.2.1, z.2.2.2.2.1, z.2.2.2.2.2.1, q)
  else if z.1 = 0 then (1, z.2.1, z.2.2.1, z.2.2.2.1, z.2.2.2.2.1, z.2.2.2.2.2.1, z.2.2.2.2.2.2)
  else if z.1 = 1 then (if c = 3 then (1, (31, 0) :: z.2.1, z.2.2.1, z.2.2.2.1, z.2.2.2.2.1, z.2.2.2.2.2.1, q)
    else if 40 ≤ c ∧ c ≤ 48 then (3, z.2.1, z.2.2.1 + 1, updG z.2.2.2.1 z.2.2.1 (c - 39), updG z.2.2.2.2.1 z.2.2.1 0, z.2.2.2.2.2.1, q)
    else if 100 ≤ c then (3, z.2.1, z.2.2.1 + 1, updG z.2.2.2.1 z.2.2.1 0, updG z.2.2.2.2.1 z.2.2.1 (c - 100), z.2.2.2.2.2.1, q)
    else BADG)
  else if z.1 = 3 then (if lea 3 c ≤ bdn (hdo z.2.1) then popg z
    else if 20 ≤ c ∧ c ≤ 23 then (1, (c, 0) :: z.2.1, z.2.2.1, z.2.2.2.1, z.2.2.2.2.1, z.2.2.2.2.2.1, q)
    else if hdo z.2.1 = 31 then (if c = 6 then (3, tlo z.2.1, z.2.2.1, z.2.2.2.1, z.2.2.2.2.1, z.2.2.2.2.2.1, q)
      else BADG)
    else if hdo z.2.1 = 33 then (7, [], z.2.2.1, z.2.2.2.1, z.2.2.2.2.1, lstC z.2.2.1 z.2.2.1 z.2.2.2.2.2.1, z.2.2.2.2.2.2)
    else if 24 ≤ hdo z.2.1 ∧ hdo z.2.1 ≤ 26 then (2, z.2.1, z.2.2.1, z.2.2.2.1, z.2.2.2.2.1, z.2.2.2.2.2.1, z.2.2.2.2.2.2)
    else if 24 ≤ c ∧ c ≤ 26 then (1, (c, 0) :: z.2.1, z.2.2.1, z.2.2.2.1, z.2.2.2.2.1, z.2.2.2.2.2.1, q)
    else BADG)
  else if z.1 = 2 then (if lea 2 c ≤ bdn (hdo z.2.1) then popg z
    else if 28 ≤ c ∧ c ≤ 29 then (0, (c, z.2.2.1) :: z.2.1, z.2.2.1 + 1, updG z.2.2.2.1 z.2.2.1 c, updG z.2.2.2.2.1 z.2.2.1 0, z.2.2.2.2.2.1, q)
    else if hdo z.2.1 = 34 then (8, [], z.2.2.1, z.2.2.2.1, z.2.2.2.2.1, lstC (lstM z.2.2.2.2.2.1) z.2.2.1 z.2.2.2.2.2.1, z.2.2.2.2.2.2)
    else if c = 9 then (2, tlo z.2.1, z.2.2.1, z.2.2.2.1, z.2.2.2.2.1, z.2.2.2.2.2.1, q)
    else BADG)
  else if z.1 = 6 then (if c = 13 then (7, [], z.2.2.1, z.2.2.2.1, z.2.2.2.2.1, (2, z.2.2.1, z.2.2.1, z.2.2.1) :: z.2.2.2.2.2.1, q)
    else if 11 ≤ c ∧ c ≤ 12 then (1, [(33, 0)], z.2.2.1, z.2.2.2.1, z.2.2.2.2.1, (c - 11, z.2.2.1, z.2.2.1, z.2.2.1) :: z.2.2.2.2.2.1, q)
    else BADG)
  else if z.1 = 7 then (if c = 10 then (0, [(34, 0)], z.2.2.1, z.2.2.2.1, z.2.2.2.2.1, z.2.2.2.2.2.1, q)
    else (8, [], z.2.2.1, z.2.2.2.1, z.2.2.2.2.1, z.2.2.2.2.2.1, z.2.2.2.2.2.2))
  else if z.1 = 8 then (if c = 14 then (6, [], z.2.2.1, z.2.2.2.1, z.2.2.2.2.1, z.2.2.2.2.2.1, q)
    else if c = 0 then (9, [], z.2.2.1, z.2.2.2.1, z.2.2.2.2.1, z.2.2.2.2.2.1, z.2.2.2.2.2.2)
    else BADG)
  else z
def STG (T : Int → Int) (n : Int) (a b : CG) : Prop := ∃ c q, TOK T n a.2.2.2.2.2.2 c q ∧ b = stg c q a
def rgN (T : Int → Int) (n : Int) : Nat → CG → CG → Prop
  | 0, a, b => a = b
  | k + 1, a, b => ∃ d, STG T n a d ∧ rgN T n k d b
def RUNG (T : Int → Int) (n : Int) (a b : CG) : Prop := ∃ k, rgN T n k a b
theorem RUNG.rf {T : Int → Int} {n : Int} {a b : CG} (h : a = b) : RUNG T n a b := ⟨0, h⟩
theorem rgN.tr {T : Int → Int} {n : Int} {b c : CG} : ∀ (k j : Nat) {a : CG}, rgN T n k a b → rgN T n j b c → rgN T n (k + j) a c
  | 0, j, a, h, h' => by rw [Nat.zero_add]; have e : a = b := h; rw [e]; exact h'
  | k + 1, j, a, h, h' => by
    obtain ⟨d, h1, h2⟩ := h
    rw [show k + 1 + j = (k + j) + 1 by omega]
    exact ⟨d, h1, rgN.tr k j h2 h'⟩
theorem RUNG.tr {T : Int → Int} {n : Int} {a b c : CG} (h : RUNG T n a b) (h' : RUNG T n b c) : RUNG T n a c := by
  obtain ⟨k, h⟩ := h
  obtain ⟨j, h'⟩ := h'
  exact ⟨k + j, rgN.tr k j h h'⟩
theorem RUNG.st {T : Int → Int} {n : Int} {a b : CG} (h : STG T n a b) : RUNG T n a b := ⟨1, b, h, rfl⟩
theorem STG.u {T : Int → Int} {n : Int} {a b b' : CG} (h : STG T n a b) (h' : STG T n a b') : b = b' := by
  obtain ⟨c, q, h1, h2⟩ := h
  obtain ⟨c', q', h1', h2'⟩ := h'
  obtain ⟨rfl, rfl⟩ := h1.u h1'
  rw [h2, h2']
theorem bdn_c {x : Int} (h : 24 ≤ x ∧ x ≤ 26) : bdn x = 4 := by
  unfold bdn
  rw [if_neg (show ¬ 30 ≤ x from by omega), if_neg (show ¬ x = 29 from by omega), if_neg (show ¬ x = 28 from by omega), if_neg (show ¬ x = 27 from by omega), if_pos h.1]
theorem bdn_rg (x : Int) : 0 ≤ bdn x ∧ bdn x ≤ 6 ∧ (bdn x = 0 ↔ 30 ≤ x) ∧ (bdn x = 1 ↔ x = 29) ∧ (bdn x = 2 ↔ x = 28) ∧ (bdn x = 3 ↔ x = 27) ∧ (bdn x = 4 ↔ 24 ≤ x ∧ x ≤ 26) ∧ (bdn x = 6 ↔ 22 ≤ x ∧ x ≤ 23) ∧ (bdn x = 5 ↔ x ≤ 21) := by
  unfold bdn
  (repeat' split) <;> omega
theorem lea_2 (c : Int) : 1 ≤ lea 2 c ∧ lea 2 c ≤ 2 ∧ (lea 2 c = 2 ↔ c = 28) := by
  unfold lea
  rw [if_neg (show ¬ ((2 : Int) = 3) from by omega)]
  split <;> omega
theorem lea_3 (c : Int) : 5 ≤ lea 3 c ∧ lea 3 c ≤ 6 ∧ (lea 3 c = 6 ↔ 22 ≤ c ∧ c ≤ 23) := by
  unfold lea
  rw [if_pos rfl]
  split <;> omega
section GSTEPS
variable {T : Int → Int} {m p c q n : Int} {F R : List (Int × Int)} {O A : Int → Int} {K : List CLR} {x a : Int}
theorem G.not (h : TOK T m p c q) (e : c = 1) : STG T m (0, F, n, O, A, K, p) (0, (27, 0) :: F, n, O, A, K, q) := ⟨c, q, h, by unfold stg; dsimp only; rw [if_pos (show ((0 : Int) = 0 ∧ c = 1) from by omega)]; first | done | rfl⟩
theorem G.rnd (h : TOK T m p c q) (e : c = 2) : STG T m (0, F, n, O, A, K, p) (0, (30, 0) :: F, n, O, A, K, q) := ⟨c, q, h, by unfold stg; dsimp only; rw [if_neg (show ¬ ((0 : Int) = 0 ∧ c = 1) from by omega), if_pos (show ((0 : Int) = 0 ∧ c = 2) from by omega)]; first | done | rfl⟩
theorem G.plain (h : TOK T m p c q) (e1 : c ≠ 1) (e2 : c ≠ 2) : STG T m (0, F, n, O, A, K, p) (1, F, n, O, A, K, p) := ⟨c, q, h, by unfold stg; dsimp only; rw [if_neg (show ¬ ((0 : Int) = 0 ∧ c = 1) from by omega), if_neg (show ¬ ((0 : Int) = 0 ∧ c = 2) from by omega), if_pos (show ((0 : Int) = 0) from by omega)]; first | done | rfl⟩
theorem G.sq (h : TOK T m p c q) (e : c = 3) : STG T m (1, F, n, O, A, K, p) (1, (31, 0) :: F, n, O, A, K, q) := ⟨c, q, h, by unfold stg; dsimp only; rw [if_neg (show ¬ ((1 : Int) = 0 ∧ c = 1) from by omega), if_neg (show ¬ ((1 : Int) = 0 ∧ c = 2) from by omega), if_neg (show ¬ ((1 : Int) = 0) from by omega), if_pos (show ((1 : Int) = 1) from by omega), if_pos (show (c = 3) from by omega)]; first | done | rfl⟩
theorem G.word (h : TOK T m p c q) (e : 40 ≤ c ∧ c ≤ 48) : STG T m (1, F, n, O, A, K, p) (3, F, n + 1, updG O n (c - 39), updG A n 0, K, q) := ⟨c, q, h, by unfold stg; dsimp only; rw [if_neg (show ¬ ((1 : Int) = 0 ∧ c = 1) from by omega), if_neg (show ¬ ((1 : Int) = 0 ∧ c = 2) from by omega), if_neg (show ¬ ((1 : Int) = 0) from by omega), if_pos (show ((1 : Int) = 1) from by omega), if_neg (show ¬ (c = 3) from by omega), if_pos (show (40 ≤ c ∧ c ≤ 48) from by omega)]; first | done | rfl⟩
theorem G.num (h : TOK T m p c q) (e : 100 ≤ c) : STG T m (1, F, n, O, A, K, p) (3, F, n + 1, updG O n 0, updG A n (c - 100), K, q) := ⟨c, q, h, by unfold stg; dsimp only; rw [if_neg (show ¬ ((1 : Int) = 0 ∧ c = 1) from by omega), if_neg (show ¬ ((1 : Int) = 0 ∧ c = 2) from by omega), if_neg (show ¬ ((1 : Int) = 0) from by omega), if_pos (show ((1 : Int) = 1) from by omega), if_neg (show ¬ (c = 3) from by omega), if_neg (show ¬ (40 ≤ c ∧ c ≤ 48) from by omega), if_pos (show (100 ≤ c) from by omega)]; first | done | rfl⟩
theorem G.pop3 (h : TOK T m p c q) (e : lea 3 c ≤ bdn (hdo F)) : STG T m (3, F, n, O, A, K, p) (popg (3, F, n, O, A, K, p)) := ⟨c, q, h, by unfold stg; dsimp only; rw [if_neg (show ¬ ((3 : Int) = 0 ∧ c = 1) from by omega), if_neg (show ¬ ((3 : Int) = 0 ∧ c = 2) from by omega), if_neg (show ¬ ((3 : Int) = 0) from by omega), if_neg (show ¬ ((3 : Int) = 1) from by omega), if_pos (show ((3 : Int) = 3) from by omega), if_pos (show (lea 3 c ≤ bdn (hdo F)) from by have z1 := bdn_rg (hdo F); have z2 := lea_3 c; have z3 := lea_2 c; omega)]; first | done | rfl⟩
theorem G.join (h : TOK T m p c q) (e : 20 ≤ c ∧ c ≤ 23) (eb : bdn (hdo F) < lea 3 c) : STG T m (3, F, n, O, A, K, p) (1, (c, 0) :: F, n, O, A, K, q) := ⟨c, q, h, by unfold stg; dsimp only; rw [if_neg (show ¬ ((3 : Int) = 0 ∧ c = 1) from by omega), if_neg (show ¬ ((3 : Int) = 0 ∧ c = 2) from by omega), if_neg (show ¬ ((3 : Int) = 0) from by omega), if_neg (show ¬ ((3 : Int) = 1) from by omega), if_pos (show ((3 : Int) = 3) from by omega), if_neg (show ¬ (lea 3 c ≤ bdn (hdo F)) from by have z1 := bdn_rg (hdo F); have z2 := lea_3 c; have z3 := lea_2 c; omega), if_pos (show (20 ≤ c ∧ c ≤ 23) from by omega)]; first | done | rfl⟩
theorem G.sqE (h : TOK T m p c q) (e : c = 6) : STG T m (3, (31, a) :: R, n, O, A, K, p) (3, R, n, O, A, K, q) := ⟨c, q, h, by unfold stg; dsimp only; rw [if_neg (show ¬ ((3 : Int) = 0 ∧ c = 1) from by omega), if_neg (show ¬ ((3 : Int) = 0 ∧ c = 2) from by omega), if_neg (show ¬ ((3 : Int) = 0) from by omega), if_neg (show ¬ ((3 : Int) = 1) from by omega), if_pos (show ((3 : Int) = 3) from by omega), if_neg (show ¬ (lea 3 c ≤ bdn (hdo ((31, a) :: R))) from (show ¬ (lea 3 c ≤ bdn ((31 : Int))) from by have z1 := bdn_rg (31 : Int); have z2 := lea_3 c; have z3 := lea_2 c; omega)), if_neg (show ¬ (20 ≤ c ∧ c ≤ 23) from by omega), if_pos (show (hdo ((31, a) :: R) = 31) from (show ((31 : Int) = 31) from by have z1 := bdn_rg (31 : Int); have z2 := lea_3 c; have z3 := lea_2 c; omega)), if_pos (show (c = 6) from by omega)]; first | done | rfl⟩
theorem G.sum (h : TOK T m p c q) (e : ¬ (20 ≤ c ∧ c ≤ 23)) : STG T m (3, (33, a) :: R, n, O, A, K, p) (7, [], n, O, A, lstC n n K, p) := ⟨c, q, h, by unfold stg; dsimp only; rw [if_neg (show ¬ ((3 : Int) = 0 ∧ c = 1) from by omega), if_neg (show ¬ ((3 : Int) = 0 ∧ c = 2) from by omega), if_neg (show ¬ ((3 : Int) = 0) from by omega), if_neg (show ¬ ((3 : Int) = 1) from by omega), if_pos (show ((3 : Int) = 3) from by omega), if_neg (show ¬ (lea 3 c ≤ bdn (hdo ((33, a) :: R))) from (show ¬ (lea 3 c ≤ bdn ((33 : Int))) from by have z1 := bdn_rg (33 : Int); have z2 := lea_3 c; have z3 := lea_2 c; omega)), if_neg (show ¬ (20 ≤ c ∧ c ≤ 23) from by omega), if_neg (show ¬ (hdo ((33, a) :: R) = 31) from (show ¬ ((33 : Int) = 31) from by have z1 := bdn_rg (33 : Int); have z2 := lea_3 c; have z3 := lea_2 c; omega)), if_pos (show (hdo ((33, a) :: R) = 33) from (show ((33 : Int) = 33) from by have z1 := bdn_rg (33 : Int); have z2 := lea_3 c; have z3 := lea_2 c; omega))]; first | done | rfl⟩
theorem G.told (h : TOK T m p c q) (e : ¬ (20 ≤ c ∧ c ≤ 23)) (hx : 24 ≤ x ∧ x ≤ 26) : STG T m (3, (x, a) :: R, n, O, A, K, p) (2, (x, a) :: R, n, O, A, K, p) := ⟨c, q, h, by unfold stg; dsimp only; rw [if_neg (show ¬ ((3 : Int) = 0 ∧ c = 1) from by omega), if_neg (show ¬ ((3 : Int) = 0 ∧ c = 2) from by omega), if_neg (show ¬ ((3 : Int) = 0) from by omega), if_neg (show ¬ ((3 : Int) = 1) from by omega), if_pos (show ((3 : Int) = 3) from by omega), if_neg (show ¬ (lea 3 c ≤ bdn (hdo ((x, a) :: R))) from (show ¬ (lea 3 c ≤ bdn (x)) from by have z1 := bdn_rg x; have z2 := lea_3 c; have z3 := lea_2 c; omega)), if_neg (show ¬ (20 ≤ c ∧ c ≤ 23) from by omega), if_neg (show ¬ (hdo ((x, a) :: R) = 31) from (show ¬ (x = 31) from by have z1 := bdn_rg x; have z2 := lea_3 c; have z3 := lea_2 c; omega)), if_neg (show ¬ (hdo ((x, a) :: R) = 33) from (show ¬ (x = 33) from by have z1 := bdn_rg x; have z2 := lea_3 c; have z3 := lea_2 c; omega)), if_pos (show (24 ≤ hdo ((x, a) :: R) ∧ hdo ((x, a) :: R) ≤ 26) from (show (24 ≤ x ∧ x ≤ 26) from by have z1 := bdn_rg x; have z2 := lea_3 c; have z3 := lea_2 c; omega))]; first | done | rfl⟩
theorem G.cmp (h : TOK T m p c q) (e : 24 ≤ c ∧ c ≤ 26) (hx : hdo F ≠ 31 ∧ hdo F ≠ 33 ∧ ¬ (24 ≤ hdo F ∧ hdo F ≤ 26)) (eb : bdn (hdo F) < 5) : STG T m (3, F, n, O, A, K, p) (1, (c, 0) :: F, n, O, A, K, q) := ⟨c, q, h, by unfold stg; dsimp only; rw [if_neg (show ¬ ((3 : Int) = 0 ∧ c = 1) from by omega), if_neg (show ¬ ((3 : Int) = 0 ∧ c = 2) from by omega), if_neg (show ¬ ((3 : Int) = 0) from by omega), if_neg (show ¬ ((3 : Int) = 1) from by omega), if_pos (show ((3 : Int) = 3) from by omega), if_neg (show ¬ (lea 3 c ≤ bdn (hdo F)) from by have z1 := bdn_rg (hdo F); have z2 := lea_3 c; have z3 := lea_2 c; omega), if_neg (show ¬ (20 ≤ c ∧ c ≤ 23) from by omega), if_neg (show ¬ (hdo F = 31) from by have z1 := bdn_rg (hdo F); have z2 := lea_3 c; have z3 := lea_2 c; omega), if_neg (show ¬ (hdo F = 33) from by have z1 := bdn_rg (hdo F); have z2 := lea_3 c; have z3 := lea_2 c; omega), if_neg (show ¬ (24 ≤ hdo F ∧ hdo F ≤ 26) from by have z1 := bdn_rg (hdo F); have z2 := lea_3 c; have z3 := lea_2 c; omega), if_pos (show (24 ≤ c ∧ c ≤ 26) from by omega)]; first | done | rfl⟩
theorem G.pop2 (h : TOK T m p c q) (e : lea 2 c ≤ bdn (hdo F)) : STG T m (2, F, n, O, A, K, p) (popg (2, F, n, O, A, K, p)) := ⟨c, q, h, by unfold stg; dsimp only; rw [if_neg (show ¬ ((2 : Int) = 0 ∧ c = 1) from by omega), if_neg (show ¬ ((2 : Int) = 0 ∧ c = 2) from by omega), if_neg (show ¬ ((2 : Int) = 0) from by omega), if_neg (show ¬ ((2 : Int) = 1) from by omega), if_neg (show ¬ ((2 : Int) = 3) from by omega), if_pos (show ((2 : Int) = 2) from by omega), if_pos (show (lea 2 c ≤ bdn (hdo F)) from by have z1 := bdn_rg (hdo F); have z2 := lea_3 c; have z3 := lea_2 c; omega)]; first | done | rfl⟩
theorem G.andor (h : TOK T m p c q) (e : 28 ≤ c ∧ c ≤ 29) (eb : bdn (hdo F) < lea 2 c) : STG T m (2, F, n, O, A, K, p) (0, (c, n) :: F, n + 1, updG O n c, updG A n 0, K, q) := ⟨c, q, h, by unfold stg; dsimp only; rw [if_neg (show ¬ ((2 : Int) = 0 ∧ c = 1) from by omega), if_neg (show ¬ ((2 : Int) = 0 ∧ c = 2) from by omega), if_neg (show ¬ ((2 : Int) = 0) from by omega), if_neg (show ¬ ((2 : Int) = 1) from by omega), if_neg (show ¬ ((2 : Int) = 3) from by omega), if_pos (show ((2 : Int) = 2) from by omega), if_neg (show ¬ (lea 2 c ≤ bdn (hdo F)) from by have z1 := bdn_rg (hdo F); have z2 := lea_3 c; have z3 := lea_2 c; omega), if_pos (show (28 ≤ c ∧ c ≤ 29) from by omega)]; first | done | rfl⟩
theorem G.test (h : TOK T m p c q) (e : ¬ (28 ≤ c ∧ c ≤ 29)) : STG T m (2, (34, a) :: R, n, O, A, K, p) (8, [], n, O, A, lstC (lstM K) n K, p) := ⟨c, q, h, by unfold stg; dsimp only; rw [if_neg (show ¬ ((2 : Int) = 0 ∧ c = 1) from by omega), if_neg (show ¬ ((2 : Int) = 0 ∧ c = 2) from by omega), if_neg (show ¬ ((2 : Int) = 0) from by omega), if_neg (show ¬ ((2 : Int) = 1) from by omega), if_neg (show ¬ ((2 : Int) = 3) from by omega), if_pos (show ((2 : Int) = 2) from by omega), if_neg (show ¬ (lea 2 c ≤ bdn (hdo ((34, a) :: R))) from (show ¬ (lea 2 c ≤ bdn ((34 : Int))) from by have z1 := bdn_rg (34 : Int); have z2 := lea_3 c; have z3 := lea_2 c; omega)), if_neg (show ¬ (28 ≤ c ∧ c ≤ 29) from by omega), if_pos (show (hdo ((34, a) :: R) = 34) from (show ((34 : Int) = 34) from by have z1 := bdn_rg (34 : Int); have z2 := lea_3 c; have z3 := lea_2 c; omega))]; first | done | rfl⟩
theorem G.rndE (h : TOK T m p c q) (e : c = 9) : STG T m (2, (30, a) :: R, n, O, A, K, p) (2, R, n, O, A, K, q) := ⟨c, q, h, by unfold stg; dsimp only; rw [if_neg (show ¬ ((2 : Int) = 0 ∧ c = 1) from by omega), if_neg (show ¬ ((2 : Int) = 0 ∧ c = 2) from by omega), if_neg (show ¬ ((2 : Int) = 0) from by omega), if_neg (show ¬ ((2 : Int) = 1) from by omega), if_neg (show ¬ ((2 : Int) = 3) from by omega), if_pos (show ((2 : Int) = 2) from by omega), if_neg (show ¬ (lea 2 c ≤ bdn (hdo ((30, a) :: R))) from (show ¬ (lea 2 c ≤ bdn ((30 : Int))) from by have z1 := bdn_rg (30 : Int); have z2 := lea_3 c; have z3 := lea_2 c; omega)), if_neg (show ¬ (28 ≤ c ∧ c ≤ 29) from by omega), if_neg (show ¬ (hdo ((30, a) :: R) = 34) from (show ¬ ((30 : Int) = 34) from by have z1 := bdn_rg (30 : Int); have z2 := lea_3 c; have z3 := lea_2 c; omega)), if_pos (show (c = 9) from by omega)]; first | done | rfl⟩
theorem G.clsB (h : TOK T m p c q) (e : c = 13) : STG T m (6, [], n, O, A, K, p) (7, [], n, O, A, (2, n, n, n) :: K, q) := ⟨c, q, h, by unfold stg; dsimp only; rw [if_neg (show ¬ ((6 : Int) = 0 ∧ c = 1) from by omega), if_neg (show ¬ ((6 : Int) = 0 ∧ c = 2) from by omega), if_neg (show ¬ ((6 : Int) = 0) from by omega), if_neg (show ¬ ((6 : Int) = 1) from by omega), if_neg (show ¬ ((6 : Int) = 3) from by omega), if_neg (show ¬ ((6 : Int) = 2) from by omega), if_pos (show ((6 : Int) = 6) from by omega), if_pos (show (c = 13) from by omega)]; first | done | rfl⟩
theorem G.cls (h : TOK T m p c q) (e : 11 ≤ c ∧ c ≤ 12) : STG T m (6, [], n, O, A, K, p) (1, [(33, 0)], n, O, A, (c - 11, n, n, n) :: K, q) := ⟨c, q, h, by unfold stg; dsimp only; rw [if_neg (show ¬ ((6 : Int) = 0 ∧ c = 1) from by omega), if_neg (show ¬ ((6 : Int) = 0 ∧ c = 2) from by omega), if_neg (show ¬ ((6 : Int) = 0) from by omega), if_neg (show ¬ ((6 : Int) = 1) from by omega), if_neg (show ¬ ((6 : Int) = 3) from by omega), if_neg (show ¬ ((6 : Int) = 2) from by omega), if_pos (show ((6 : Int) = 6) from by omega), if_neg (show ¬ (c = 13) from by omega), if_pos (show (11 ≤ c ∧ c ≤ 12) from by omega)]; first | done | rfl⟩
theorem G.if_ (h : TOK T m p c q) (e : c = 10) : STG T m (7, [], n, O, A, K, p) (0, [(34, 0)], n, O, A, K, q) := ⟨c, q, h, by unfold stg; dsimp only; rw [if_neg (show ¬ ((7 : Int) = 0 ∧ c = 1) from by omega), if_neg (show ¬ ((7 : Int) = 0 ∧ c = 2) from by omega), if_neg (show ¬ ((7 : Int) = 0) from by omega), if_neg (show ¬ ((7 : Int) = 1) from by omega), if_neg (show ¬ ((7 : Int) = 3) from by omega), if_neg (show ¬ ((7 : Int) = 2) from by omega), if_neg (show ¬ ((7 : Int) = 6) from by omega), if_pos (show ((7 : Int) = 7) from by omega), if_pos (show (c = 10) from by omega)]; first | done | rfl⟩
theorem G.noif (h : TOK T m p c q) (e : c ≠ 10) : STG T m (7, [], n, O, A, K, p) (8, [], n, O, A, K, p) := ⟨c, q, h, by unfold stg; dsimp only; rw [if_neg (show ¬ ((7 : Int) = 0 ∧ c = 1) from by omega), if_neg (show ¬ ((7 : Int) = 0 ∧ c = 2) from by omega), if_neg (show ¬ ((7 : Int) = 0) from by omega), if_neg (show ¬ ((7 : Int) = 1) from by omega), if_neg (show ¬ ((7 : Int) = 3) from by omega), if_neg (show ¬ ((7 : Int) = 2) from by omega), if_neg (show ¬ ((7 : Int) = 6) from by omega), if_pos (show ((7 : Int) = 7) from by omega), if_neg (show ¬ (c = 10) from by omega)]; first | done | rfl⟩
theorem G.semi (h : TOK T m p c q) (e : c = 14) : STG T m (8, [], n, O, A, K, p) (6, [], n, O, A, K, q) := ⟨c, q, h, by unfold stg; dsimp only; rw [if_neg (show ¬ ((8 : Int) = 0 ∧ c = 1) from by omega), if_neg (show ¬ ((8 : Int) = 0 ∧ c = 2) from by omega), if_neg (show ¬ ((8 : Int) = 0) from by omega), if_neg (show ¬ ((8 : Int) = 1) from by omega), if_neg (show ¬ ((8 : Int) = 3) from by omega), if_neg (show ¬ ((8 : Int) = 2) from by omega), if_neg (show ¬ ((8 : Int) = 6) from by omega), if_neg (show ¬ ((8 : Int) = 7) from by omega), if_pos (show ((8 : Int) = 8) from by omega), if_pos (show (c = 14) from by omega)]; first | done | rfl⟩
theorem G.fin (h : TOK T m p c q) (e : c = 0) : STG T m (8, [], n, O, A, K, p) (9, [], n, O, A, K, p) := ⟨c, q, h, by unfold stg; dsimp only; rw [if_neg (show ¬ ((8 : Int) = 0 ∧ c = 1) from by omega), if_neg (show ¬ ((8 : Int) = 0 ∧ c = 2) from by omega), if_neg (show ¬ ((8 : Int) = 0) from by omega), if_neg (show ¬ ((8 : Int) = 1) from by omega), if_neg (show ¬ ((8 : Int) = 3) from by omega), if_neg (show ¬ ((8 : Int) = 2) from by omega), if_neg (show ¬ ((8 : Int) = 6) from by omega), if_neg (show ¬ ((8 : Int) = 7) from by omega), if_pos (show ((8 : Int) = 8) from by omega), if_neg (show ¬ (c = 14) from by omega), if_pos (show (c = 0) from by omega)]; first | done | rfl⟩
/-- the top settled: an instruction -/
theorem popg_op {t : Int} {K : List CLR} (h : x ≠ 28 ∧ x ≠ 29) : popg (t, (x, a) :: R, n, O, A, K, p) = (t, R, n + 1, updG O n x, updG A n 0, K, p) := if_neg (show ¬ (hdo ((x, a) :: R) = 28 ∨ hdo ((x, a) :: R) = 29) from by rw [hdo_c]; omega)
/-- the top settled: what it jumps to -/
theorem popg_jmp {t : Int} {K : List CLR} (h : x = 28 ∨ x = 29) : popg (t, (x, a) :: R, n, O, A, K, p) = (t, R, n, O, updG A a n, K, p) := if_pos (show hdo ((x, a) :: R) = 28 ∨ hdo ((x, a) :: R) = 29 from by rw [hdo_c]; exact h)
end GSTEPS
theorem STG.fin {T : Int → Int} {n : Int} {a b : CG} (h : STG T n a b) (hf : a.1 = 9) : b = a := by
  obtain ⟨c, q, h1, h2⟩ := h
  obtain ⟨t, F, m, O, A, K, p⟩ := a
  have e' : t = 9 := hf
  subst e'
  rw [h2]
  unfold stg
  dsimp only
  rw [if_neg (show ¬ ((9 : Int) = 0 ∧ c = 1) from by omega), if_neg (show ¬ ((9 : Int) = 0 ∧ c = 2) from by omega), if_neg (show ¬ ((9 : Int) = 0) from by omega), if_neg (show ¬ ((9 : Int) = 1) from by omega), if_neg (show ¬ ((9 : Int) = 3) from by omega), if_neg (show ¬ ((9 : Int) = 2) from by omega), if_neg (show ¬ ((9 : Int) = 6) from by omega), if_neg (show ¬ ((9 : Int) = 7) from by omega), if_neg (show ¬ ((9 : Int) = 8) from by omega)]
theorem rgN.fin {T : Int → Int} {n : Int} {b : CG} : ∀ (k : Nat) {a : CG}, a.1 = 9 → rgN T n k a b → b = a
  | 0, a, _, h => (show a = b from h).symm
  | k + 1, a, hf, h => by
    obtain ⟨d, h1, h2⟩ := h
    have e := h1.fin hf
    subst e
    exact rgN.fin k hf h2
theorem rgN.u {T : Int → Int} {n : Int} {b b' : CG} (hb : b.1 = 9) (hb' : b'.1 = 9) : ∀ (k j : Nat) {a : CG}, rgN T n k a b → rgN T n j a b' → b = b'
  | 0, j, a, h, h' => by
    have e : a = b := h
    subst e
    exact (rgN.fin j hb h').symm
  | k + 1, 0, a, h, h' => by
    have e : a = b' := h'
    subst e
    exact rgN.fin (k + 1) hb' h
  | k + 1, j + 1, a, h, h' => by
    obtain ⟨d, h1, h2⟩ := h
    obtain ⟨d', h1', h2'⟩ := h'
    have e := h1.u h1'
    subst e
    exact rgN.u hb hb' k j h2 h2'
/-- the end is one alone -/
theorem RUNG.u {T : Int → Int} {n : Int} {a b b' : CG} (h : RUNG T n a b) (h' : RUNG T n a b') (hb : b.1 = 9) (hb' : b'.1 = 9) : b = b' := by
  obtain ⟨k, h⟩ := h
  obtain ⟨j, h'⟩ := h'
  exact rgN.u hb hb' k j h h'
/-! ===== the class's code against the reference's, a value's worth of it: kinds and values K V, what and where to O A; y 0 a SUM's, 1 a TEST's ===== -/
def LEAF (k v o a : Int) : Prop := (k = 0 ∧ o = 0 ∧ a = v) ∨ (k = 1 ∧ 0 ≤ v ∧ v ≤ 8 ∧ o = v + 1)
/-- joined by k: from what to what -/
def OPT (k y z : Int) : Prop := (2 ≤ k ∧ k ≤ 5 ∧ y = 0 ∧ z = 0) ∨ (6 ≤ k ∧ k ≤ 8 ∧ y = 0 ∧ z = 1)
def cor (K V O A : Int → Int) : Nat → Int → Int → Int → Int → Int → Prop
  | 0, _, _, _, _, _ => False
  | f + 1, y, a, b, a', b' => (y = 0 ∧ b = a + 1 ∧ b' = a' + 1 ∧ LEAF (K a) (V a) (O a') (A a')) ∨ (∃ i i', (∃ x j j', cor K V O A f x a i a' i' ∧ cor K V O A f x i j i' j' ∧ b = j + 1 ∧ b' = j' + 1 ∧ OPT (K j) x y ∧ O j' = K j + 18) ∨ (y = 1 ∧ cor K V O A f 1 a i a' i' ∧ ((b = i + 1 ∧ b' = i' + 1 ∧ K i = 9 ∧ O i' = 27) ∨ (b = i ∧ b' = i' + 2 ∧ O i' = 27 ∧ O (i' + 1) = 27) ∨ (cor K V O A f 1 (i + 1) b (i' + 1) b' ∧ ((K i = 10 ∧ O i' = 28) ∨ (K i = 11 ∧ O i' = 29)) ∧ V i = b ∧ A i' = b'))))
section CORS
variable {K V O A K' V' O' A' : Int → Int}
theorem cor.le : ∀ (f : Nat) {y a b a' b' : Int}, cor K V O A f y a b a' b' → a < b ∧ a' < b'
  | 0, y, a, b, a', b', h => False.elim h
  | f + 1, y, a, b, a', b', h => by
    rcases h with ⟨h0, h1, h2, h3⟩ | ⟨i, i', ⟨x, j, j', h1, h2, h3, h4, _⟩ | ⟨_, h1, ⟨h2, h3, _⟩ | ⟨h2, h3, _⟩ | ⟨h2, _⟩⟩⟩
    · omega
    · have z := cor.le f h1; have w := cor.le f h2; omega
    · have z := cor.le f h1; omega
    · have z := cor.le f h1; omega
    · have z := cor.le f h1; have w := cor.le f h2; omega
theorem cor.up1 : ∀ (f : Nat) {y a b a' b' : Int}, cor K V O A f y a b a' b' → cor K V O A (f + 1) y a b a' b'
  | 0, y, a, b, a', b', h => False.elim h
  | f + 1, y, a, b, a', b', h => by
    rcases h with h | ⟨i, i', ⟨x, j, j', h1, h2, h3⟩ | ⟨h0, h1, h | h | ⟨h2, h3⟩⟩⟩
    · exact Or.inl h
    · exact Or.inr ⟨i, i', Or.inl ⟨x, j, j', cor.up1 f h1, cor.up1 f h2, h3⟩⟩
    · exact Or.inr ⟨i, i', Or.inr ⟨h0, cor.up1 f h1, Or.inl h⟩⟩
    · exact Or.inr ⟨i, i', Or.inr ⟨h0, cor.up1 f h1, Or.inr (Or.inl h)⟩⟩
    · exact Or.inr ⟨i, i', Or.inr ⟨h0, cor.up1 f h1, Or.inr (Or.inr ⟨cor.up1 f h2, h3⟩)⟩⟩
theorem cor.up : ∀ (j f : Nat) {y a b a' b' : Int}, cor K V O A f y a b a' b' → cor K V O A (f + j) y a b a' b'
  | 0, f, y, a, b, a', b', h => h
  | j + 1, f, y, a, b, a', b', h => cor.up1 (f + j) (cor.up j f h)
theorem cor.c : ∀ (f : Nat) {y a b a' b' : Int}, (∀ i, a ≤ i → i < b → K i = K' i ∧ V i = V' i) → (∀ i, a' ≤ i → i < b' → O i = O' i ∧ A i = A' i) → cor K V O A f y a b a' b' → cor K' V' O' A' f y a b a' b'
  | 0, y, a, b, a', b', _, _, h => h
  | f + 1, y, a, b, a', b', hx, hm, h => by
    rcases h with ⟨h0, h1, h2, h3⟩ | ⟨i, i', ⟨x, j, j', h1, h2, h3, h4, h5⟩ | ⟨h0, h1, ⟨h2, h3, h4, h5⟩ | ⟨h2, h3, h4, h5⟩ | ⟨h2, h3, h4, h5⟩⟩⟩
    · have x := hx a (by omega) (by omega)
      have y := hm a' (by omega) (by omega)
      exact Or.inl ⟨h0, h1, h2, by rw [← x.1, ← x.2, ← y.1, ← y.2]; exact h3⟩
    · have z := cor.le f h1
      have w := cor.le f h2
      have x1 := hx j (by omega) (by omega)
      have y1 := hm j' (by omega) (by omega)
      exact Or.inr ⟨i, i', Or.inl ⟨x, j, j', cor.c f (fun j a b => hx j a (by omega)) (fun j a b => hm j a (by omega)) h1, cor.c f (fun j a b => hx j (by omega) (by omega)) (fun j a b => hm j (by omega) (by omega)) h2, h3, h4, by rw [← x1.1, ← y1.1]; exact h5⟩⟩
    · have z := cor.le f h1
      have x := hx i (by omega) (by omega)
      have y := hm i' (by omega) (by omega)
      exact Or.inr ⟨i, i', Or.inr ⟨h0, cor.c f (fun j a b => hx j a (by omega)) (fun j a b => hm j a (by omega)) h1, Or.inl ⟨h2, h3, x.1.symm.trans h4, y.1.symm.trans h5⟩⟩⟩
    · have z := cor.le f h1
      have y := hm i' (by omega) (by omega)
      have y2 := hm (i' + 1) (by omega) (by omega)
      exact Or.inr ⟨i, i', Or.inr ⟨h0, cor.c f (fun j a b => hx j a (by omega)) (fun j a b => hm j a (by omega)) h1, Or.inr (Or.inl ⟨h2, h3, y.1.symm.trans h4, y2.1.symm.trans h5⟩)⟩⟩
    · have z := cor.le f h1
      have w := cor.le f h2
      have x := hx i (by omega) (by omega)
      have y := hm i' (by omega) (by omega)
      exact Or.inr ⟨i, i', Or.inr ⟨h0, cor.c f (fun j a b => hx j a (by omega)) (fun j a b => hm j a (by omega)) h1, Or.inr (Or.inr ⟨cor.c f (fun j a b => hx j (by omega) b) (fun j a b => hm j (by omega) b) h2, by rw [← x.1, ← y.1]; exact h3, x.2.symm.trans h4, y.2.symm.trans h5⟩)⟩⟩
end CORS
def COR (K V O A : Int → Int) (y a b a' b' : Int) : Prop := ∃ f, cor K V O A f y a b a' b'
section CORS2
variable {K V O A K' V' O' A' : Int → Int} {x y a b i j a' b' i' j' : Int}
theorem COR.le (h : COR K V O A y a b a' b') : a < b ∧ a' < b' := by
  obtain ⟨f, h⟩ := h
  exact cor.le f h
theorem COR.c (h : COR K V O A y a b a' b') (hx : ∀ i, a ≤ i → i < b → K i = K' i ∧ V i = V' i) (hm : ∀ i, a' ≤ i → i < b' → O i = O' i ∧ A i = A' i) : COR K' V' O' A' y a b a' b' := by
  obtain ⟨f, h⟩ := h
  exact ⟨f, cor.c f hx hm h⟩
theorem COR.leaf (e : b = a + 1) (e' : b' = a' + 1) (s : LEAF (K a) (V a) (O a') (A a')) : COR K V O A 0 a b a' b' := ⟨1, Or.inl ⟨rfl, e, e', s⟩⟩
theorem COR.two (h : COR K V O A x a i a' i') (h2 : COR K V O A y j b j' b') : ∃ f, cor K V O A f x a i a' i' ∧ cor K V O A f y j b j' b' := by
  obtain ⟨f, h⟩ := h
  obtain ⟨k, h2⟩ := h2
  refine ⟨f + k, cor.up k f h, ?_⟩
  rw [Nat.add_comm f k]
  exact cor.up f k h2
theorem COR.bin (h : COR K V O A x a i a' i') (h2 : COR K V O A x i j i' j') (e : b = j + 1) (e' : b' = j' + 1) (k : OPT (K j) x y) (k3 : O j' = K j + 18) : COR K V O A y a b a' b' := by
  obtain ⟨f, u, v⟩ := h.two h2
  exact ⟨f + 1, Or.inr ⟨i, i', Or.inl ⟨x, j, j', u, v, e, e', k, k3⟩⟩⟩
theorem COR.not (h : COR K V O A 1 a i a' i') (e : b = i + 1) (e' : b' = i' + 1) (k1 : K i = 9) (k2 : O i' = 27) : COR K V O A 1 a b a' b' := by
  obtain ⟨f, h⟩ := h
  exact ⟨f + 1, Or.inr ⟨i, i', Or.inr ⟨rfl, h, Or.inl ⟨e, e', k1, k2⟩⟩⟩⟩
theorem COR.nn (h : COR K V O A 1 a b a' i') (e' : b' = i' + 2) (h1 : O i' = 27) (h2 : O (i' + 1) = 27) : COR K V O A 1 a b a' b' := by
  obtain ⟨f, h⟩ := h
  exact ⟨f + 1, Or.inr ⟨b, i', Or.inr ⟨rfl, h, Or.inr (Or.inl ⟨rfl, e', h1, h2⟩)⟩⟩⟩
theorem COR.jmp (h : COR K V O A 1 a i a' i') (h2 : COR K V O A 1 (i + 1) b (i' + 1) b') (k : (K i = 10 ∧ O i' = 28) ∨ (K i = 11 ∧ O i' = 29)) (e : V i = b) (e' : A i' = b') : COR K V O A 1 a b a' b' := by
  obtain ⟨f, u, v⟩ := h.two h2
  exact ⟨f + 1, Or.inr ⟨i, i', Or.inr ⟨rfl, u, Or.inr (Or.inr ⟨v, k, e, e'⟩)⟩⟩⟩
end CORS2
/-! what the instructions do: to a place and a pile of numbers, or BROKEN. W: what words are -/
def opv (o x y : Int) : Int := if o = 20 then x + y else if o = 21 then x - y else if o = 22 then x * y else if o = 23 then Int.tdiv x y else if o = 24 then (if x < y then 1 else 0) else if o = 25 then (if y < x then 1 else 0) else (if x = y then 1 else 0)
abbrev opb (o x y : Int) : Prop := (o = 23 ∧ y = 0) ∨ opv o x y < -1000000000 ∨ 1000000000 < opv o x y
def jmv (o : Int) : Int := if o = 28 then 0 else 1
theorem opv.t {o : Int} (h : 24 ≤ o ∧ o ≤ 26) (x y : Int) : opv o x y = 0 ∨ opv o x y = 1 := by
  unfold opv
  rw [if_neg (show ¬ o = 20 from by omega), if_neg (show ¬ o = 21 from by omega), if_neg (show ¬ o = 22 from by omega), if_neg (show ¬ o = 23 from by omega)]
  (repeat' split) <;> omega
abbrev EVS : Type := Option (Int × List Int)
abbrev EVF : Type := Int × List Int → EVS
/-- an instruction of the reference's kind (0 a number, 1 .. 9 words, 20 .. 29) -/
def exi (W : Int → Int) (p o a : Int) (S : List Int) : EVS :=
  if o = 0 then some (p + 1, a :: S)
  else if o < 20 then some (p + 1, W o :: S)
  else if o < 27 then (if opb o (S.tail.headD 0) (S.headD 0) then none else some (p + 1, opv o (S.tail.headD 0) (S.headD 0) :: S.tail.tail))
  else if o = 27 then some (p + 1, (1 - S.headD 0) :: S.tail)
  else (if S.headD 0 = jmv o then some (a, S) else some (p + 1, S.tail))
def exM (W O A : Int → Int) : EVF := fun z => exi W z.1 (O z.1) (A z.1) z.2
/-- the class's instructions are those of the reference's kind -/
def kop (k v : Int) : Int := if k = 0 then 0 else if k = 1 then v + 1 else k + 18
def exX (W K V : Int → Int) : EVF := fun z => exi W z.1 (kop (K z.1) (V z.1)) (V z.1) z.2
/-- what an instruction finds -/
def WFI (o : Int) (S : List Int) : Prop := (o < 20 → S.length ≤ 63) ∧ (20 ≤ o ∧ o ≤ 26 → 2 ≤ S.length) ∧ (27 ≤ o → 1 ≤ S.length ∧ (S.headD 0 = 0 ∨ S.headD 0 = 1))
def itr (F : EVF) : Nat → Int × List Int → EVS
  | 0, z => some z
  | n + 1, z => (F z).bind (itr F n)
/-- from a place to a place, all between below the second, each as it must be; or BROKEN on the way -/
def GO (F : EVF) (o : Int → Int) (a b : Int) (S S' : List Int) : Prop := ∃ n : Nat, itr F n (a, S) = some (b, S') ∧ (n : Int) ≤ b - a ∧ ∀ m, m < n → ∃ y, itr F m (a, S) = some y ∧ a ≤ y.1 ∧ y.1 < b ∧ WFI (o y.1) y.2 ∧ ∀ w, F y = some w → y.1 < w.1
def GB (F : EVF) (o : Int → Int) (a b : Int) (S : List Int) : Prop := ∃ n : Nat, itr F (n + 1) (a, S) = none ∧ (n : Int) + 1 ≤ b - a ∧ ∀ m, m < n + 1 → ∃ y, itr F m (a, S) = some y ∧ a ≤ y.1 ∧ y.1 < b ∧ WFI (o y.1) y.2 ∧ ∀ w, F y = some w → y.1 < w.1
theorem itr.add (F : EVF) : ∀ (m n : Nat) {z y : Int × List Int}, itr F m z = some y → itr F (m + n) z = itr F n y
  | 0, n, z, y, h => by
    have e : z = y := Option.some.inj h
    rw [e, Nat.zero_add]
  | m + 1, n, z, y, h => by
    rw [show m + 1 + n = (m + n) + 1 by omega]
    show (F z).bind (itr F (m + n)) = _
    have h' : (F z).bind (itr F m) = some y := h
    cases hz : F z with
    | none => rw [hz] at h'; cases h'
    | some w =>
      rw [hz] at h'
      exact itr.add F m n h'
section GOS
variable {F : EVF} {o : Int → Int} {a b c : Int} {S S' S2 : List Int}
theorem GO.z : GO F o a a S S := ⟨0, rfl, by omega, fun m h => absurd h (by omega)⟩
theorem GO.one (h : F (a, S) = some (b, S')) (l : a < b) (w : WFI (o a) S) : GO F o a b S S' := ⟨1, by show (F (a, S)).bind (itr F 0) = _; rw [h]; rfl, by omega, fun m hm => ⟨(a, S), by rw [show m = 0 by omega]; rfl, Int.le_refl a, l, w, fun w' hw => by rw [← Option.some.inj (h.symm.trans hw)]; exact l⟩⟩
theorem GB.one (h : F (a, S) = none) (l : a < b) (w : WFI (o a) S) : GB F o a b S := ⟨0, by show (F (a, S)).bind (itr F 0) = _; rw [h]; rfl, by omega, fun m hm => ⟨(a, S), by rw [show m = 0 by omega]; rfl, Int.le_refl a, l, w, fun w' hw => by rw [h] at hw; cases hw⟩⟩
theorem GO.le (h : GO F o a b S S') : a ≤ b := by
  obtain ⟨n, h1, hb, h2⟩ := h
  omega
theorem GO.tr (h : GO F o a b S S') (k : GO F o b c S' S2) : GO F o a c S S2 := by
  have l1 := h.le
  have l2 := k.le
  obtain ⟨n, h1, hb, h2⟩ := h
  obtain ⟨m, k1, kb, k2⟩ := k
  refine ⟨n + m, (itr.add F n m h1).trans k1, by omega, fun j hj => ?_⟩
  by_cases e : j < n
  · obtain ⟨y, y1, y2, y3, y4⟩ := h2 j e
    exact ⟨y, y1, y2, by omega, y4⟩
  · obtain ⟨y, y1, y2, y3, y4⟩ := k2 (j - n) (by omega)
    refine ⟨y, ?_, by omega, y3, y4⟩
    rw [show j = n + (j - n) by omega]
    exact (itr.add F n (j - n) h1).trans y1
theorem GO.br (h : GO F o a b S S') (k : GB F o b c S') : GB F o a c S := by
  have l1 := h.le
  obtain ⟨n, h1, hb, h2⟩ := h
  obtain ⟨m, k1, kb, k2⟩ := k
  have l2 : b < c := by omega
  refine ⟨n + m, ?_, by omega, fun j hj => ?_⟩
  · rw [show n + m + 1 = n + (m + 1) by omega]
    exact (itr.add F n (m + 1) h1).trans k1
  · by_cases e : j < n
    · obtain ⟨y, y1, y2, y3, y4⟩ := h2 j e
      exact ⟨y, y1, y2, by omega, y4⟩
    · obtain ⟨y, y1, y2, y3, y4⟩ := k2 (j - n) (by omega)
      refine ⟨y, ?_, by omega, y3, y4⟩
      rw [show j = n + (j - n) by omega]
      exact (itr.add F n (j - n) h1).trans y1
theorem GB.up (h : GB F o a b S) (l : b ≤ c) : GB F o a c S := by
  obtain ⟨n, h1, hb, h2⟩ := h
  exact ⟨n, h1, by omega, fun j hj => by
    obtain ⟨y, y1, y2, y3, y4⟩ := h2 j hj
    exact ⟨y, y1, y2, by omega, y4⟩⟩
end GOS
/-- how many leaves -/
def cntN (K : Int → Int) (a : Int) : Nat → Nat
  | 0 => 0
  | n + 1 => cntN K a n + (if K (a + (n : Int)) ≤ 1 then 1 else 0)
def CNT (K : Int → Int) (a b : Int) : Nat := cntN K a (b - a).toNat
theorem cntN.add (K : Int → Int) (a : Int) (m : Nat) : ∀ n : Nat, cntN K a (m + n) = cntN K a m + cntN K (a + (m : Int)) n
  | 0 => rfl
  | n + 1 => by
    show cntN K a (m + n) + (if K (a + ((m + n : Nat) : Int)) ≤ 1 then 1 else 0) = cntN K a m + (cntN K (a + (m : Int)) n + (if K (a + (m : Int) + (n : Int)) ≤ 1 then 1 else 0))
    rw [cntN.add K a m n, show a + ((m + n : Nat) : Int) = a + (m : Int) + (n : Int) by omega]
    omega
theorem CNT.tr (K : Int → Int) {a b c : Int} (h : a ≤ b) (k : b ≤ c) : CNT K a c = CNT K a b + CNT K b c := by
  unfold CNT
  rw [show (c - a).toNat = (b - a).toNat + (c - b).toNat by omega, cntN.add, show a + (((b - a).toNat : Nat) : Int) = b by omega]
theorem CNT.one (K : Int → Int) {a b : Int} (h : b = a + 1) : CNT K a b = if K a ≤ 1 then 1 else 0 := by
  unfold CNT
  rw [show (b - a).toNat = 1 by omega]
  show 0 + (if K (a + ((0 : Nat) : Int)) ≤ 1 then 1 else 0) = _
  rw [show a + ((0 : Nat) : Int) = a by omega, Nat.zero_add]
theorem cor.cnt {K V O A : Int → Int} : ∀ (f : Nat) {y a b a' b' : Int}, cor K V O A f y a b a' b' → 1 ≤ CNT K a b
  | 0, y, a, b, a', b', h => False.elim h
  | f + 1, y, a, b, a', b', h => by
    rcases h with ⟨h0, h1, h2, h3⟩ | ⟨i, i', ⟨x, j, j', h1, h2, h3, h4, h5⟩ | ⟨h0, h1, ⟨h2, h3, h4, h5⟩ | ⟨h2, h3, h4, h5⟩ | ⟨h2, h3, h4, h5⟩⟩⟩
    · rw [CNT.one K h1, if_pos (show K a ≤ 1 from by unfold LEAF at h3; omega)]
      exact Nat.le_refl 1
    · have z := cor.le f h1
      have w := cor.le f h2
      have q := cor.cnt f h1
      rw [CNT.tr K (show a ≤ i by omega) (show i ≤ b by omega)]
      omega
    · have z := cor.le f h1
      have q := cor.cnt f h1
      rw [CNT.tr K (show a ≤ i by omega) (show i ≤ b by omega)]
      omega
    · have q := cor.cnt f h1
      rw [h2]
      exact q
    · have z := cor.le f h1
      have w := cor.le f h2
      have q := cor.cnt f h1
      rw [CNT.tr K (show a ≤ i by omega) (show i ≤ b by omega)]
      omega
section LOCK
variable {W K V O A : Int → Int}
/-- what a value's worth of code does, on both sides -/
def LK (W K V O A : Int → Int) (y a b a' b' : Int) (S : List Int) : Prop := (∃ v, (y = 1 → v = 0 ∨ v = 1) ∧ GO (exX W K V) (fun i => kop (K i) (V i)) a b S (v :: S) ∧ GO (exM W O A) O a' b' S (v :: S)) ∨ (GB (exX W K V) (fun i => kop (K i) (V i)) a b S ∧ GB (exM W O A) O a' b' S)
theorem exi.bin {p o a : Int} {x y : Int} {S : List Int} (h : 20 ≤ o ∧ o ≤ 26) : exi W p o a (y :: x :: S) = if opb o x y then none else some (p + 1, opv o x y :: S) := by
  unfold exi
  rw [if_neg (show ¬ o = 0 from by omega), if_neg (show ¬ o < 20 from by omega), if_pos (show o < 27 from by omega)]
  rfl
theorem exi.not {p a x : Int} {S : List Int} : exi W p 27 a (x :: S) = some (p + 1, (1 - x) :: S) := by
  unfold exi
  rw [if_neg (show ¬ (27 : Int) = 0 from by omega), if_neg (show ¬ (27 : Int) < 20 from by omega), if_neg (show ¬ (27 : Int) < 27 from by omega), if_pos rfl]
  rfl
theorem exi.jmp {p o a x : Int} {S : List Int} (h : 28 ≤ o ∧ o ≤ 29) : exi W p o a (x :: S) = if x = jmv o then some (a, x :: S) else some (p + 1, S) := by
  unfold exi
  rw [if_neg (show ¬ o = 0 from by omega), if_neg (show ¬ o < 20 from by omega), if_neg (show ¬ o < 27 from by omega), if_neg (show ¬ o = 27 from by omega)]
  rfl
theorem WFI.bin {o : Int} {x y : Int} {S : List Int} (h : 20 ≤ o ∧ o ≤ 26) : WFI o (y :: x :: S) := ⟨fun k => by omega, fun _ => by rw [List.length_cons, List.length_cons]; omega, fun k => by omega⟩
theorem WFI.one {o : Int} {x : Int} {S : List Int} (h : 27 ≤ o) (hx : x = 0 ∨ x = 1) : WFI o (x :: S) := ⟨fun k => by omega, fun k => by omega, fun _ => ⟨by rw [List.length_cons]; omega, hx⟩⟩
theorem kop.op {k v : Int} (h : 2 ≤ k) : kop k v = k + 18 := by
  unfold kop
  rw [if_neg (show ¬ k = 0 from by omega), if_neg (show ¬ k = 1 from by omega)]
theorem cor.run : ∀ (f : Nat) {y a b a' b' : Int} {S : List Int}, cor K V O A f y a b a' b' → S.length + CNT K a b ≤ 64 → LK W K V O A y a b a' b' S
  | 0, y, a, b, a', b', S, h, _ => False.elim h
  | f + 1, y, a, b, a', b', S, h, hs => by
    rcases h with ⟨h0, h1, h2, h3⟩ | ⟨i, i', ⟨x, j, j', h1, h2, h3, h4, h5, h6⟩ | ⟨h0, h1, h⟩⟩
    · have hk : K a ≤ 1 := by unfold LEAF at h3; omega
      rw [CNT.one K h1, if_pos hk] at hs
      have hw : ∀ o : Int, o < 20 → WFI o S := fun o ho => ⟨fun _ => by omega, fun k => by omega, fun k => by omega⟩
      left
      rcases h3 with ⟨k0, o0, e⟩ | ⟨k1, v0, v8, o1⟩
      · refine ⟨V a, fun e => by omega, GO.one ?_ (by omega) ?_, GO.one ?_ (by omega) ?_⟩
        · show exi W a (kop (K a) (V a)) (V a) S = _
          rw [show kop (K a) (V a) = 0 from if_pos k0, h1]
          exact if_pos rfl
        · show WFI (kop (K a) (V a)) S
          rw [show kop (K a) (V a) = 0 from if_pos k0]
          exact hw 0 (by omega)
        · show exi W a' (O a') (A a') S = _
          rw [o0, h2, e]
          exact if_pos rfl
        · rw [o0]
          exact hw 0 (by omega)
      · have ek : kop (K a) (V a) = V a + 1 := (if_neg (show ¬ K a = 0 from by omega)).trans (if_pos k1)
        refine ⟨W (V a + 1), fun e => by omega, GO.one ?_ (by omega) ?_, GO.one ?_ (by omega) ?_⟩
        · show exi W a (kop (K a) (V a)) (V a) S = _
          rw [ek, h1]
          exact (if_neg (show ¬ V a + 1 = 0 from by omega)).trans (if_pos (show V a + 1 < 20 from by omega))
        · show WFI (kop (K a) (V a)) S
          rw [ek]
          exact hw _ (by omega)
        · show exi W a' (O a') (A a') S = _
          rw [o1, h2]
          exact (if_neg (show ¬ V a + 1 = 0 from by omega)).trans (if_pos (show V a + 1 < 20 from by omega))
        · rw [o1]
          exact hw _ (by omega)
    · have z := cor.le f h1
      have w := cor.le f h2
      have q := cor.cnt f h1
      rw [CNT.tr K (show a ≤ i by omega) (show i ≤ b by omega), CNT.tr K (show i ≤ j by omega) (show j ≤ b by omega)] at hs
      have hj : 2 ≤ K j ∧ K j ≤ 8 := by unfold OPT at h5; omega
      rcases cor.run f (S := S) h1 (by omega) with ⟨v, _, g1, g2⟩ | ⟨g1, g2⟩
      · rcases cor.run f (S := v :: S) h2 (by rw [List.length_cons]; omega) with ⟨u, _, k1, k2⟩ | ⟨k1, k2⟩
        · have ek : kop (K j) (V j) = K j + 18 := kop.op hj.1
          by_cases hb : opb (K j + 18) v u
          · right
            refine ⟨(g1.tr k1).br (GB.one ?_ (by omega) ?_), (g2.tr k2).br (GB.one ?_ (by omega) ?_)⟩
            · show exi W j (kop (K j) (V j)) (V j) (u :: v :: S) = none
              rw [ek, exi.bin (by omega)]
              exact if_pos hb
            · show WFI (kop (K j) (V j)) (u :: v :: S)
              rw [ek]
              exact WFI.bin (by omega)
            · show exi W j' (O j') (A j') (u :: v :: S) = none
              rw [h6, exi.bin (by omega)]
              exact if_pos hb
            · rw [h6]
              exact WFI.bin (by omega)
          · left
            refine ⟨opv (K j + 18) v u, fun e => opv.t (by unfold OPT at h5; omega) v u, (g1.tr k1).tr (GO.one ?_ (by omega) ?_), (g2.tr k2).tr (GO.one ?_ (by omega) ?_)⟩
            · show exi W j (kop (K j) (V j)) (V j) (u :: v :: S) = _
              rw [ek, exi.bin (by omega), h3]
              exact if_neg hb
            · show WFI (kop (K j) (V j)) (u :: v :: S)
              rw [ek]
              exact WFI.bin (by omega)
            · show exi W j' (O j') (A j') (u :: v :: S) = _
              rw [h6, exi.bin (by omega), h4]
              exact if_neg hb
            · rw [h6]
              exact WFI.bin (by omega)
        · exact Or.inr ⟨(g1.br k1).up (by omega), (g2.br k2).up (by omega)⟩
      · exact Or.inr ⟨g1.up (by omega), g2.up (by omega)⟩
    · have z := cor.le f h1
      have hb : i ≤ b := by
        rcases h with ⟨h2, _⟩ | ⟨h2, _⟩ | ⟨h2, _⟩
        · omega
        · omega
        · have w := cor.le f h2; omega
      have hb' : i' ≤ b' := by
        rcases h with ⟨h2, h3, _⟩ | ⟨h2, h3, _⟩ | ⟨h2, _⟩
        · omega
        · omega
        · have w := cor.le f h2; omega
      rw [CNT.tr K (show a ≤ i by omega) hb] at hs
      rcases cor.run f (S := S) h1 (by omega) with ⟨v, hv, g1, g2⟩ | ⟨g1, g2⟩
      · have hv' := hv rfl
        rcases h with ⟨h2, h3, h4, h5⟩ | ⟨h2, h3, h4, h5⟩ | ⟨h2, h3, h4, h5⟩
        · left
          have ek : kop (K i) (V i) = 27 := by rw [kop.op (by omega), h4]; rfl
          refine ⟨1 - v, fun _ => by omega, g1.tr (GO.one ?_ (by omega) ?_), g2.tr (GO.one ?_ (by omega) ?_)⟩
          · show exi W i (kop (K i) (V i)) (V i) (v :: S) = _
            rw [ek, h2]
            exact exi.not
          · show WFI (kop (K i) (V i)) (v :: S)
            rw [ek]
            exact WFI.one (by omega) hv'
          · show exi W i' (O i') (A i') (v :: S) = _
            rw [h5, h3]
            exact exi.not
          · rw [h5]
            exact WFI.one (by omega) hv'
        · left
          subst h2
          refine ⟨v, fun _ => hv', g1, g2.tr ((GO.one (b := i' + 1) (S' := (1 - v) :: S) ?_ (by omega) ?_).tr (GO.one ?_ (by omega) ?_))⟩
          · show exi W i' (O i') (A i') (v :: S) = _
            rw [h4]
            exact exi.not
          · rw [h4]
            exact WFI.one (by omega) hv'
          · show exi W (i' + 1) (O (i' + 1)) (A (i' + 1)) ((1 - v) :: S) = _
            rw [h5, h3, exi.not, show 1 - (1 - v) = v by omega, show i' + 1 + 1 = i' + 2 by omega]
          · rw [h5]
            exact WFI.one (by omega) (by omega)
        · have w := cor.le f h2
          have hk : 28 ≤ O i' ∧ O i' ≤ 29 := by omega
          have ek : kop (K i) (V i) = O i' := by rw [kop.op (by omega)]; omega
          have w1 : WFI (kop (K i) (V i)) (v :: S) := by rw [ek]; exact WFI.one (by omega) hv'
          have w2 : WFI (O i') (v :: S) := WFI.one (by omega) hv'
          by_cases hj : v = jmv (O i')
          · left
            refine ⟨v, fun _ => hv', g1.tr (GO.one ?_ (by omega) w1), g2.tr (GO.one ?_ (by omega) w2)⟩
            · show exi W i (kop (K i) (V i)) (V i) (v :: S) = _
              rw [ek, exi.jmp hk, if_pos hj, h4]
            · show exi W i' (O i') (A i') (v :: S) = _
              rw [exi.jmp hk, if_pos hj, h5]
          · have s1 : GO (exX W K V) (fun i => kop (K i) (V i)) i (i + 1) (v :: S) S := GO.one (by
              show exi W i (kop (K i) (V i)) (V i) (v :: S) = _
              rw [ek, exi.jmp hk]
              exact if_neg hj) (by omega) w1
            have s2 : GO (exM W O A) O i' (i' + 1) (v :: S) S := GO.one (by
              show exi W i' (O i') (A i') (v :: S) = _
              rw [exi.jmp hk]
              exact if_neg hj) (by omega) w2
            have hc : CNT K i b = CNT K i (i + 1) + CNT K (i + 1) b := CNT.tr K (by omega) (by omega)
            rcases cor.run f (S := S) h2 (by omega) with ⟨u, hu, k1, k2⟩ | ⟨k1, k2⟩
            · exact Or.inl ⟨u, fun _ => hu rfl, (g1.tr s1).tr k1, (g2.tr s2).tr k2⟩
            · exact Or.inr ⟨(g1.tr s1).br k1, (g2.tr s2).br k2⟩
      · exact Or.inr ⟨g1.up hb, g2.up hb'⟩
end LOCK
/-! ===== the reference's parser against the machine (ag): its pile, its code ===== -/
/-- the first k of a pile, the latest ahead, over a base -/
def plF (P Q : Int → Int) (b : Int) : Nat → List (Int × Int)
  | 0 => [(b, 0)]
  | k + 1 => (P (k : Int), Q (k : Int)) :: plF P Q b k
theorem plF_c {P Q P' Q' : Int → Int} {b : Int} : ∀ k : Nat, (∀ j : Int, 0 ≤ j → j < k → P j = P' j ∧ Q j = Q' j) → plF P Q b k = plF P' Q' b k
  | 0, _ => rfl
  | k + 1, h => by
    have ih := plF_c (b := b) k (fun j h0 h1 => h j h0 (by omega))
    have e := h (k : Int) (by omega) (by omega)
    show (P (k : Int), Q (k : Int)) :: plF P Q b k = (P' (k : Int), Q' (k : Int)) :: plF P' Q' b k
    rw [ih, e.1, e.2]
def PLF (P Q : Int → Int) (b p : Int) : List (Int × Int) := plF P Q b p.toNat
section PLFS
variable {P Q P' Q' : Int → Int} {b p p' : Int}
theorem PLF_s (h0 : 0 ≤ p) (e : p' = p + 1) : PLF P Q b p' = (P p, Q p) :: PLF P Q b p := by
  unfold PLF
  rw [show p'.toNat = p.toNat + 1 by omega]
  show (P ((p.toNat : Nat) : Int), Q ((p.toNat : Nat) : Int)) :: plF P Q b p.toNat = _
  rw [show ((p.toNat : Nat) : Int) = p by omega]
theorem PLF_z (h : p ≤ 0) : PLF P Q b p = [(b, 0)] := by unfold PLF; rw [show p.toNat = 0 by omega]; rfl
theorem PLF_c (h : ∀ j : Int, 0 ≤ j → j < p → P j = P' j ∧ Q j = Q' j) : PLF P Q b p = PLF P' Q' b p := plF_c _ (fun j h0 h1 => h j h0 (by omega))
theorem PLF_h (h : 0 < p) : hdo (PLF P Q b p) = P (p - 1) := by
  rw [PLF_s (p := p - 1) (by omega) (by omega)]
  exact hdo_c _ _
theorem PLF_hz (h : p ≤ 0) : hdo (PLF P Q b p) = b := by
  rw [PLF_z h]
  exact hdo_c _ _
end PLFS
/-- what is popped one by one, each binding so strongly at least -/
def pops (a : Int) : Nat → CG → CG → Prop
  | 0, x, y => x = y
  | k + 1, x, y => a ≤ bdn (hdo x.2.1) ∧ pops a k (popg x) y
def PPS (a : Int) (x y : CG) : Prop := ∃ k, pops a k x y
theorem pops_sn {a : Int} : ∀ (k : Nat) {x y : CG}, pops a k x y → a ≤ bdn (hdo y.2.1) → pops a (k + 1) x (popg y)
  | 0, x, y, h, e => by
    have h' : x = y := h
    subst h'
    exact ⟨e, rfl⟩
  | k + 1, x, y, h, e => ⟨h.1, pops_sn k h.2 e⟩
theorem PPS_rf {a : Int} {x : CG} : PPS a x x := ⟨0, rfl⟩
theorem PPS_sn {a : Int} {x y z : CG} (h : PPS a x y) (e : a ≤ bdn (hdo y.2.1)) (hz : z = popg y) : PPS a x z := by
  obtain ⟨k, h⟩ := h
  rw [hz]
  exact ⟨k + 1, pops_sn k h e⟩
theorem popg_t (z : CG) : (popg z).1 = z.1 := by
  unfold popg
  split <;> rfl
theorem popg_p (z : CG) : (popg z).2.2.2.2.2.2 = z.2.2.2.2.2.2 := by
  unfold popg
  split <;> rfl
theorem popg_f (z : CG) : (popg z).2.1 = tlo z.2.1 := by
  unfold popg
  split <;> rfl
/-- another turn, the same else -/
theorem popg_x (t : Int) (z : CG) : popg (t, z.2) = (t, (popg z).2) := by
  unfold popg
  dsimp only
  split <;> rfl
theorem STG_pop3 {T : Int → Int} {n c q : Int} {z : CG} (h : z.1 = 3) (k : TOK T n z.2.2.2.2.2.2 c q) (e : lea 3 c ≤ bdn (hdo z.2.1)) : STG T n z (popg z) := by
  obtain ⟨t, F, m, O, A, K, p⟩ := z
  have h' : t = 3 := h
  subst h'
  exact G.pop3 k e
theorem STG_pop2 {T : Int → Int} {n c q : Int} {z : CG} (h : z.1 = 2) (k : TOK T n z.2.2.2.2.2.2 c q) (e : lea 2 c ≤ bdn (hdo z.2.1)) : STG T n z (popg z) := by
  obtain ⟨t, F, m, O, A, K, p⟩ := z
  have h' : t = 2 := h
  subst h'
  exact G.pop2 k e
/-- all that is settled behind a SUM -/
theorem pops_3 {T : Int → Int} {n c q a : Int} {c0 : CG} : ∀ (k : Nat) {z y : CG}, pops a k z y → z.1 = 3 → TOK T n z.2.2.2.2.2.2 c q → lea 3 c ≤ a → RUNG T n c0 z → RUNG T n c0 y
  | 0, z, y, h, _, _, _, r => by
    have h' : z = y := h
    rw [← h']
    exact r
  | k + 1, z, y, h, h1, h2, h3, r => pops_3 k h.2 ((popg_t z).trans h1) (by rw [popg_p]; exact h2) h3 (r.tr (RUNG.st (STG_pop3 h1 h2 (by have := h.1; omega))))
theorem PPS_3 {T : Int → Int} {n c q a : Int} {c0 z y : CG} (h : PPS a z y) (h1 : z.1 = 3) (h2 : TOK T n z.2.2.2.2.2.2 c q) (h3 : lea 3 c ≤ a) (r : RUNG T n c0 z) : RUNG T n c0 y := by
  obtain ⟨k, h⟩ := h
  exact pops_3 k h h1 h2 h3 r
/-- arithmetic, and a comparison below it -/
def ACF : List (Int × Int) → Prop
  | [] => False
  | f :: R => (24 ≤ f.1 ∧ f.1 ≤ 26) ∨ ((20 ≤ f.1 ∧ f.1 ≤ 23) ∧ ACF R)
/-- a test is told: the machine may still stand behind its last SUM -/
def TLD (T : Int → Int) (n : Int) (c0 z : CG) : Prop := RUNG T n c0 (2, z.2) ∨ (RUNG T n c0 (3, z.2) ∧ ACF z.2.1 ∧ ∃ c q, TOK T n z.2.2.2.2.2.2 c q ∧ ¬ (20 ≤ c ∧ c ≤ 23))
theorem ACF_b : ∀ F : List (Int × Int), ACF F → 4 ≤ bdn (hdo F)
  | [], h => False.elim h
  | f :: R, h => by
    have z := bdn_rg f.1
    rw [hdo_c]
    rcases h with h | h <;> omega
theorem pops_ar : ∀ (k : Nat) {z y : CG}, pops 1 k z y → (∀ f ∈ z.2.1, (20 ≤ f.1 ∧ f.1 ≤ 23) ∨ 30 ≤ f.1) → pops 5 k z y
  | 0, z, y, h, _ => h
  | k + 1, z, y, h, hf => by
    refine ⟨?_, pops_ar k h.2 (fun f m => ?_)⟩
    · have h1 := h.1
      cases e : z.2.1 with
      | nil =>
        rw [e] at h1
        exact absurd h1 (by decide)
      | cons f R =>
        rw [e, hdo_c] at h1
        rw [hdo_c]
        have bb := bdn_rg f.1
        have w := hf f (by rw [e]; exact List.mem_cons_self ..)
        omega
    · rw [popg_f] at m
      cases e : z.2.1 with
      | nil =>
        rw [e] at m
        cases m
      | cons x R =>
        rw [e, tlo_c] at m
        exact hf f (by rw [e]; exact List.mem_cons_of_mem _ m)
theorem plF_all {φ : Int × Int → Prop} {P Q : Int → Int} {b : Int} : ∀ k : Nat, (∀ j : Int, 0 ≤ j → j < (k : Int) → φ (P j, Q j)) → φ (b, 0) → ∀ f ∈ plF P Q b k, φ f
  | 0, _, hb, f, m => by
    have m' : f ∈ [(b, (0 : Int))] := m
    rw [List.mem_singleton.mp m']
    exact hb
  | k + 1, h, hb, f, m => by
    have m' : f ∈ (P (k : Int), Q (k : Int)) :: plF P Q b k := m
    rcases List.mem_cons.mp m' with e | m2
    · rw [e]
      exact h (k : Int) (by omega) (by omega)
    · exact plF_all k (fun j j0 j1 => h j j0 (by omega)) hb f m2
theorem TLD_pop {T : Int → Int} {n c q a : Int} {c0 z : CG} (h : TLD T n c0 z) (k : TOK T n z.2.2.2.2.2.2 c q) (ha : lea 2 c ≤ a) (e : a ≤ bdn (hdo z.2.1)) : TLD T n c0 (popg z) := by
  rcases h with h | ⟨h, hf, c', q', k', hc⟩
  · left
    have s := STG_pop2 (z := (2, z.2)) rfl k (show lea 2 c ≤ bdn (hdo z.2.1) from by omega)
    rw [popg_x] at s
    exact h.tr (RUNG.st s)
  · obtain ⟨rfl, rfl⟩ := k.u k'
    have l3 := lea_3 c
    obtain ⟨t, F, m, O, A, K, p⟩ := z
    cases F with
    | nil => exact False.elim hf
    | cons f R =>
      have b := bdn_rg f.1
      have hf' : (24 ≤ f.1 ∧ f.1 ≤ 26) ∨ ((20 ≤ f.1 ∧ f.1 ≤ 23) ∧ ACF R) := hf
      rcases hf' with hx | ⟨hx, hR⟩
      · left
        obtain ⟨x, y⟩ := f
        have s1 := G.told (x := x) (a := y) (R := R) (n := m) (O := O) (A := A) (K := K) k hc hx
        have s2 := STG_pop2 (z := (2, (x, y) :: R, m, O, A, K, p)) rfl k (show lea 2 c ≤ bdn x from by have := lea_2 c; have : bdn (x, y).1 = bdn x := rfl; omega)
        have s3 := popg_x 2 (t, (x, y) :: R, m, O, A, K, p)
        rw [show popg (2, (x, y) :: R, m, O, A, K, p) = (2, (popg (t, (x, y) :: R, m, O, A, K, p)).2) from s3] at s2
        exact (h.tr (RUNG.st s1)).tr (RUNG.st s2)
      · right
        have s2 := STG_pop3 (z := (3, f :: R, m, O, A, K, p)) rfl k (show lea 3 c ≤ bdn f.1 from by omega)
        have s3 := popg_x 3 (t, f :: R, m, O, A, K, p)
        rw [show popg (3, f :: R, m, O, A, K, p) = (3, (popg (t, f :: R, m, O, A, K, p)).2) from s3] at s2
        refine ⟨h.tr (RUNG.st s2), ?_, c, q, ?_, hc⟩
        · rw [popg_f]
          exact hR
        · rw [popg_p]
          exact k
theorem pops_2 {T : Int → Int} {n c q a : Int} {c0 : CG} : ∀ (k : Nat) {z y : CG}, pops a k z y → TOK T n z.2.2.2.2.2.2 c q → lea 2 c ≤ a → TLD T n c0 z → TLD T n c0 y
  | 0, z, y, h, _, _, r => by
    have h' : z = y := h
    rw [← h']
    exact r
  | k + 1, z, y, h, h2, h3, r => pops_2 k h.2 (by rw [popg_p]; exact h2) h3 (TLD_pop r h2 h3 h.1)
theorem PPS_2 {T : Int → Int} {n c q a : Int} {c0 z y : CG} (h : PPS a z y) (h2 : TOK T n z.2.2.2.2.2.2 c q) (h3 : lea 2 c ≤ a) (r : TLD T n c0 z) : TLD T n c0 y := by
  obtain ⟨k, h⟩ := h
  exact pops_2 k h h2 h3 r
theorem TLD_end {T : Int → Int} {n : Int} {c0 z : CG} (h : TLD T n c0 z) (e : bdn (hdo z.2.1) < 4) : RUNG T n c0 (2, z.2) := by
  rcases h with h | ⟨_, hf, _⟩
  · exact h
  · have := ACF_b _ hf
    omega
/-! how the parser stands -/
def OG (g : List en_E) (i : Int) : Int := if 0 ≤ i then pE g 238 i else 0
def AG (g : List en_E) (i : Int) : Int := if 0 ≤ i then pE g 239 i else 0
theorem OG_c {g g' : List en_E} (h : gA g' 238 = gA g 238) : OG g' = OG g := by unfold OG; rw [pE_c h]
theorem AG_c {g g' : List en_E} (h : gA g' 239 = gA g 239) : AG g' = AG g := by unfold AG; rw [pE_c h]
def CGM (g : List en_E) (t b : Int) (K : List CLR) (p : Int) : CG := (t, PLF (pP g) (pE g 241) b (pI g 23), pI g 17, OG g, AG g, K, p)
/-- the code is as it was -/
def SMG (g g' : List en_E) : Prop := OG g' = OG g ∧ AG g' = AG g ∧ pI g' 17 = pI g 17
theorem SMG_mk {g g' : List en_E} (h1 : gA g' 238 = gA g 238) (h2 : gA g' 239 = gA g 239) (h3 : gI g' 231 17 = gI g 231 17) : SMG g g' := ⟨OG_c h1, AG_c h2, pI.c h3⟩
theorem SMG_tr {g g1 g2 : List en_E} (h : SMG g g1) (k : SMG g1 g2) : SMG g g2 := ⟨k.1.trans h.1, k.2.1.trans h.2.1, k.2.2.trans h.2.2⟩
/-- an instruction more -/
def EMG (g g' : List en_E) (o a : Int) : Prop := OG g' = updG (OG g) (pI g 17) o ∧ AG g' = updG (AG g) (pI g 17) a ∧ pI g' 17 = pI g 17 + 1
theorem EMG_mk {g g' : List en_E} {o a : Int} (h : EMIT g g' o) (ha : pE g' 239 (pI g 17) = a) (h0 : 0 ≤ pI g 17) : EMG g g' o a := by
  obtain ⟨e1, e2, e3, e4⟩ := h
  refine ⟨funext (fun i => ?_), funext (fun i => ?_), e1⟩
  · by_cases c : i = pI g 17
    · rw [updG_q c]
      unfold OG
      rw [c, if_pos h0]
      exact e4
    · rw [updG_n c]
      unfold OG
      by_cases d : 0 ≤ i
      · rw [if_pos d, if_pos d]
        exact congrArg Int32.toInt (e2 i d c)
      · rw [if_neg d, if_neg d]
  · by_cases c : i = pI g 17
    · rw [updG_q c]
      unfold AG
      rw [c, if_pos h0]
      exact ha
    · rw [updG_n c]
      unfold AG
      by_cases d : 0 ≤ i
      · rw [if_pos d, if_pos d]
        exact congrArg Int32.toInt (e3 i d c)
      · rw [if_neg d, if_neg d]
theorem EMG_fr {g gx gp g' : List en_E} {o a : Int} (h : EMG gx gp o a) (s1 : SMG g gx) (s2 : SMG gp g') : EMG g g' o a := by
  obtain ⟨e1, e2, e3⟩ := h
  obtain ⟨a1, a2, a3⟩ := s1
  obtain ⟨b1, b2, b3⟩ := s2
  refine ⟨?_, ?_, ?_⟩
  · rw [b1, e1, a1, a3]
  · rw [b2, e2, a2, a3]
  · rw [b3, e3, a3]
/-- where an instruction leads to -/
theorem AG_upd {g g' : List en_E} {j v : Int} (h0 : 0 ≤ j) (h1 : pE g' 239 j = v) (h2 : ∀ i, 0 ≤ i → i ≠ j → eA g' 239 i = eA g 239 i) : AG g' = updG (AG g) j v := funext (fun i => by
  by_cases c : i = j
  · rw [updG_q c]
    unfold AG
    rw [c, if_pos h0]
    exact h1
  · rw [updG_n c]
    unfold AG
    by_cases d : 0 ≤ i
    · rw [if_pos d, if_pos d]
      exact congrArg Int32.toInt (h2 i d c)
    · rw [if_neg d, if_neg d])
section CGMS
variable {g g' gs : List en_E} {t t' b o a p : Int} {K : List CLR}
theorem CGM_push (hE : PUSH g g' o a) (h0 : 0 ≤ pI g 23) (s : SMG g g') : CGM g' t b K p = (t, (o, a) :: PLF (pP g) (pE g 241) b (pI g 23), pI g 17, OG g, AG g, K, p) := by
  obtain ⟨e1, e2, e3, e4, e5⟩ := hE
  unfold CGM
  rw [PLF_s h0 e1, show pP g' (pI g 23) = o from e4, show pE g' 241 (pI g 23) = a from e5, PLF_c (P' := pP g) (Q' := pE g 241) (fun j j0 j1 => ⟨congrArg Int32.toInt (e2 j j0 (by omega)), congrArg Int32.toInt (e3 j j0 (by omega))⟩), s.1, s.2.1, s.2.2]
theorem CGM_same (hA : gA g' 240 = gA g 240) (hB : gA g' 241 = gA g 241) (hp : pI g' 23 = pI g 23) : CGM g' t b K p = (t, PLF (pP g) (pE g 241) b (pI g 23), pI g' 17, OG g', AG g', K, p) := by
  unfold CGM
  rw [show pP g' = pP g from pE_c hA, pE_c hB, hp]
theorem CGM_hd (h : 0 < pI g 23) : hdo (CGM g t b K p).2.1 = pP g (pI g 23 - 1) := PLF_h h
theorem CGM_hz (h : pI g 23 ≤ 0) : hdo (CGM g t b K p).2.1 = b := PLF_hz h
/-- the top settled: an instruction goes out -/
theorem CGM_op (hA : gA g' 240 = gA g 240) (hB : gA g' 241 = gA g 241) (hp : pI g' 23 = pI g 23 - 1) (h1 : 1 ≤ pI g 23) (hx : pP g (pI g 23 - 1) ≠ 28 ∧ pP g (pI g 23 - 1) ≠ 29) (e : EMG g g' (pP g (pI g 23 - 1)) 0) : CGM g' t b K p = popg (CGM g t b K p) := by
  unfold CGM
  rw [show pP g' = pP g from pE_c hA, pE_c hB, PLF_s (p := pI g' 23) (p' := pI g 23) (by omega) (by omega), popg_op (by rw [hp]; exact hx), e.1, e.2.1, e.2.2, hp]
/-- the top settled: an AND's, an OR's place is told where it leads to -/
theorem CGM_jmp (hA : gA g' 240 = gA g 240) (hB : gA g' 241 = gA g 241) (hp : pI g' 23 = pI g 23 - 1) (h1 : 1 ≤ pI g 23) (hx : pP g (pI g 23 - 1) = 28 ∨ pP g (pI g 23 - 1) = 29) (hO : OG g' = OG g) (hN : pI g' 17 = pI g 17) (e : AG g' = updG (AG g) (pE g 241 (pI g 23 - 1)) (pI g 17)) : CGM g' t b K p = popg (CGM g t b K p) := by
  unfold CGM
  rw [show pP g' = pP g from pE_c hA, pE_c hB, PLF_s (p := pI g' 23) (p' := pI g 23) (by omega) (by omega), popg_jmp (by rw [hp]; exact hx), hO, hN, e, hp]
end CGMS
/-- settled so far -/
def SEG (g g' : List en_E) (a : Int) : Prop := ∀ (t b : Int) (K : List CLR) (p : Int), PPS a (CGM g t b K p) (CGM g' t b K p)
/-- settle -/
def SETG (g g' : List en_E) (a : Int) : Prop := SEG g g' a ∧ (0 < pI g' 23 → bdn (pP g' (pI g' 23 - 1)) < a)
theorem SEG_rf {g : List en_E} {a : Int} : SEG g g a := fun _ _ _ _ => PPS_rf
theorem SEG_eq {g g1 g' : List en_E} {a : Int} (h : SEG g g1 a) (e : ∀ (t b : Int) (K : List CLR) (p : Int), CGM g' t b K p = CGM g1 t b K p) : SEG g g' a := fun t b K p => by
  rw [e]
  exact h t b K p
theorem SEG_sn {g g1 g' : List en_E} {a : Int} (h : SEG g g1 a) (h1 : 1 ≤ pI g1 23) (hb : a ≤ bdn (pP g1 (pI g1 23 - 1))) (e : ∀ (t b : Int) (K : List CLR) (p : Int), CGM g' t b K p = popg (CGM g1 t b K p)) : SEG g g' a := fun t b K p => PPS_sn (h t b K p) (by rw [CGM_hd (by omega)]; exact hb) (e t b K p)
theorem CGM_fr {g gx : List en_E} {t b p : Int} {K : List CLR} (a0 : gA gx 240 = gA g 240) (b0 : gA gx 241 = gA g 241) (p0 : gI gx 231 23 = gI g 231 23) (s : SMG g gx) : CGM gx t b K p = CGM g t b K p := by
  unfold CGM
  rw [show pP gx = pP g from pE_c a0, pE_c b0, pI.c p0, s.1, s.2.1, s.2.2]
theorem SETG_fr {g gx g' : List en_E} {a : Int} (h : SETG gx g' a) (a0 : gA gx 240 = gA g 240) (b0 : gA gx 241 = gA g 241) (p0 : gI gx 231 23 = gI g 231 23) (s : SMG g gx) : SETG g g' a := ⟨fun t b K p => by
  have z := h.1 t b K p
  rw [CGM_fr a0 b0 p0 s] at z
  exact z, h.2⟩
/-- what stands besides -/
def PLG2 (g : List en_E) (b t : Int) : Prop := (b = 33 ∨ b = 34) ∧ 0 ≤ pI g 23 ∧ 0 ≤ pI g 17 ∧ (∀ j : Int, 0 ≤ j → j < pI g 23 → 20 ≤ pP g j ∧ pP g j ≤ 31) ∧ (b = 33 → t ≠ 0 ∧ t ≠ 2 ∧ ∀ j : Int, 0 ≤ j → j < pI g 23 → pP g j ≤ 23 ∨ pP g j = 31)
/-- how an expression stands at a turn, over a base: as the machine does -/
def CSG (T : Int → Int) (n : Int) (c0 : CG) (g : List en_E) (b t : Int) (K : List CLR) : Prop := PLG2 g b t ∧ (t ≤ 1 ∨ t = 3 → RUNG T n c0 (CGM g t b K (pI g 9))) ∧ (t = 2 ∨ (t = 4 ∧ b = 34) → TLD T n c0 (CGM g 2 b K (pI g 9))) ∧ (t = 4 → (∀ j : Int, 0 ≤ j → j < pI g 23 → pP g j < 30) ∧ (∃ c q, TOK T n (pI g 9) c q ∧ (b = 34 → ¬ (28 ≤ c ∧ c ≤ 29)) ∧ (b = 33 → ¬ (20 ≤ c ∧ c ≤ 23))) ∧ (b = 33 → RUNG T n c0 (CGM g 3 b K (pI g 9))))
/-- from one turn to the next -/
def MGT (g g' : List en_E) (t r : Int) (C : Int → Prop) : Prop := pI g' 14 = 0 → ∀ (c0 : CG) (b : Int) (K : List CLR), C b → CSG (TM g) (nM g) c0 g b t K → CSG (TM g) (nM g) c0 g' b r K
section MGS
variable {T : Int → Int} {n : Int} {c0 : CG} {g gs gx g' : List en_E} {b t t' c q o a r : Int} {K : List CLR}
theorem CSG_run (h : CSG T n c0 g b t K) (e : t ≤ 1 ∨ t = 3) : RUNG T n c0 (CGM g t b K (pI g 9)) := h.2.1 e
theorem CSG_tld (h : CSG T n c0 g b t K) (e : t = 2) : TLD T n c0 (CGM g 2 b K (pI g 9)) := h.2.2.1 (Or.inl e)
theorem CSG_mk1 (p : PLG2 g b t) (h : RUNG T n c0 (CGM g t b K (pI g 9))) (e : t ≤ 1 ∨ t = 3) : CSG T n c0 g b t K := ⟨p, fun _ => h, fun x => by omega, fun x => by omega⟩
theorem CSG_mk2 (p : PLG2 g b 2) (h : TLD T n c0 (CGM g 2 b K (pI g 9))) : CSG T n c0 g b 2 K := ⟨p, fun x => by omega, fun _ => h, fun x => by omega⟩
theorem PLG2_eq (p : PLG2 g b t) (hA : gA g' 240 = gA g 240) (hp : pI g' 23 = pI g 23) (h17 : 0 ≤ pI g' 17) (ht : b = 33 → t' ≠ 0 ∧ t' ≠ 2) : PLG2 g' b t' := by
  have e : pP g' = pP g := pE_c hA
  refine ⟨p.1, by rw [hp]; exact p.2.1, h17, by rw [e, hp]; exact p.2.2.2.1, fun z => ⟨(ht z).1, (ht z).2, by rw [e, hp]; exact (p.2.2.2.2 z).2.2⟩⟩
theorem PLG2_push (p : PLG2 g b t) (hE : PUSH g g' o a) (ho : 20 ≤ o ∧ o ≤ 31) (h17 : 0 ≤ pI g' 17) (ht : b = 33 → t' ≠ 0 ∧ t' ≠ 2 ∧ (o ≤ 23 ∨ o = 31)) : PLG2 g' b t' := by
  obtain ⟨e1, e2, e3, e4, e5⟩ := hE
  have q : ∀ j : Int, 0 ≤ j → j < pI g 23 → pP g' j = pP g j := fun j j0 j1 => congrArg Int32.toInt (e2 j j0 (by omega))
  have e4' : pP g' (pI g 23) = o := e4
  have h0 := p.2.1
  refine ⟨p.1, by omega, h17, fun j j0 j1 => ?_, fun z => ⟨(ht z).1, (ht z).2.1, fun j j0 j1 => ?_⟩⟩
  · by_cases d : j = pI g 23
    · rw [d, e4']; exact ho
    · rw [q j j0 (by omega)]; exact p.2.2.2.1 j j0 (by omega)
  · by_cases d : j = pI g 23
    · rw [d, e4']; exact (ht z).2.2
    · rw [q j j0 (by omega)]; exact (p.2.2.2.2 z).2.2 j j0 (by omega)
/-- fewer on the pile -/
theorem PLG2_less (p : PLG2 g b t) (hA : gA g' 240 = gA g 240) (h0 : 0 ≤ pI g' 23) (hp : pI g' 23 ≤ pI g 23) (h17 : 0 ≤ pI g' 17) (ht : b = 33 → t' ≠ 0 ∧ t' ≠ 2) : PLG2 g' b t' := by
  have e : pP g' = pP g := pE_c hA
  refine ⟨p.1, h0, h17, fun j j0 j1 => by rw [e]; exact p.2.2.2.1 j j0 (by omega), fun z => ⟨(ht z).1, (ht z).2, fun j j0 j1 => by rw [e]; exact (p.2.2.2.2 z).2.2 j j0 (by omega)⟩⟩
theorem MG_sq (h : CSG T n c0 g b 1 K) (k : TOK T n (pI g 9) c (pI g' 9)) (hc : c = 3) (hE : PUSH g g' o a) (ho : o = 31) (ha : a = 0) (s : SMG g g') : CSG T n c0 g' b 1 K := by
  have p := h.1
  refine CSG_mk1 (PLG2_push p hE (by omega) (by rw [s.2.2]; exact p.2.2.1) (fun _ => ⟨by omega, by omega, Or.inr ho⟩)) ?_ (Or.inl (Int.le_refl 1))
  rw [CGM_push hE p.2.1 s, ho, ha]
  exact (CSG_run h (Or.inl (Int.le_refl 1))).tr (RUNG.st (G.sq k hc))
theorem MG_leaf (h : CSG T n c0 g b 1 K) (k : TOK T n (pI g 9) c (pI g' 9)) (hc : (40 ≤ c ∧ c ≤ 48 ∧ o = c - 39 ∧ a = 0) ∨ (100 ≤ c ∧ o = 0 ∧ a = c - 100)) (hA : gA g' 240 = gA g 240) (hB : gA g' 241 = gA g 241) (hp : pI g' 23 = pI g 23) (e : EMG g g' o a) : CSG T n c0 g' b 3 K := by
  have p := h.1
  have p17 := p.2.2.1
  have e17 := e.2.2
  refine CSG_mk1 (PLG2_eq p hA hp (by omega) (fun _ => ⟨by omega, by omega⟩)) ?_ (Or.inr rfl)
  rw [CGM_same hA hB hp, e.1, e.2.1, e.2.2]
  have r := CSG_run h (Or.inl (Int.le_refl 1))
  rcases hc with ⟨c1, c2, c3, c4⟩ | ⟨c1, c3, c4⟩
  · rw [c3, c4]
    exact r.tr (RUNG.st (G.word k ⟨c1, c2⟩))
  · rw [c3, c4]
    exact r.tr (RUNG.st (G.num k c1))
theorem MG_plain (h : CSG T n c0 g b 0 K) (k : TOK T n (pI g 9) c q) (h1 : c ≠ 1) (h2 : c ≠ 2) : CSG T n c0 g b 1 K := by
  have p := h.1
  refine CSG_mk1 (PLG2_eq p rfl rfl p.2.2.1 (fun _ => ⟨by omega, by omega⟩)) ?_ (Or.inl (Int.le_refl 1))
  exact (CSG_run h (Or.inl (by decide))).tr (RUNG.st (G.plain k h1 h2))
theorem MG_not (h : CSG T n c0 g b 0 K) (k : TOK T n (pI g 9) c (pI g' 9)) (hc : c = 1) (hE : PUSH g g' o a) (ho : o = 27) (ha : a = 0) (s : SMG g g') : CSG T n c0 g' b 0 K := by
  have p := h.1
  refine CSG_mk1 (PLG2_push p hE (by omega) (by rw [s.2.2]; exact p.2.2.1) (fun z => absurd rfl (p.2.2.2.2 z).1)) ?_ (Or.inl (by decide))
  rw [CGM_push hE p.2.1 s, ho, ha]
  exact (CSG_run h (Or.inl (by decide))).tr (RUNG.st (G.not k hc))
theorem MG_rnd (h : CSG T n c0 g b 0 K) (k : TOK T n (pI g 9) c (pI g' 9)) (hc : c = 2) (hE : PUSH g g' o a) (ho : o = 30) (ha : a = 0) (s : SMG g g') : CSG T n c0 g' b 0 K := by
  have p := h.1
  refine CSG_mk1 (PLG2_push p hE (by omega) (by rw [s.2.2]; exact p.2.2.1) (fun z => absurd rfl (p.2.2.2.2 z).1)) ?_ (Or.inl (by decide))
  rw [CGM_push hE p.2.1 s, ho, ha]
  exact (CSG_run h (Or.inl (by decide))).tr (RUNG.st (G.rnd k hc))
/-- settled behind a SUM -/
theorem SETG_3 (h : CSG T n c0 g b 3 K) (k : TOK T n (pI g 9) c q) (hs : SETG g gs a) (ha : lea 3 c ≤ a) : RUNG T n c0 (CGM gs 3 b K (pI g 9)) := PPS_3 (hs.1 3 b K (pI g 9)) rfl k ha (CSG_run h (Or.inr rfl))
theorem SETG_hd (hs : SETG g gs a) (hb : bdn b < a) (t p : Int) : bdn (hdo (CGM gs t b K p).2.1) < a := by
  by_cases d : 0 < pI gs 23
  · rw [CGM_hd d]
    exact hs.2 d
  · rw [CGM_hz (by omega)]
    exact hb
theorem bdn_33 : bdn 33 = 0 := by decide
theorem bdn_34 : bdn 34 = 0 := by decide
theorem PLG2_b (p : PLG2 g b t) : bdn b = 0 := by
  rcases p.1 with e | e
  · rw [e]; exact bdn_33
  · rw [e]; exact bdn_34
theorem MG_join (h : CSG T n c0 g b 3 K) (k : TOK T n (pI g 9) c (pI g' 9)) (hc : 20 ≤ c ∧ c ≤ 23) (hs : SETG g gs a) (ha : a = lea 3 c) (hq : SETQ g gs a) (hE : PUSH gs g' o r) (ho : o = c) (hr : r = 0) (s : SMG gs g') (h17 : 0 ≤ pI gs 17) : CSG T n c0 g' b 1 K := by
  have p := h.1
  have l3 := lea_3 c
  have pb := PLG2_b p
  have p2 : PLG2 gs b 1 := PLG2_less p hq.2.2.1 hq.1 hq.2.1 h17 (fun _ => ⟨by omega, by omega⟩)
  refine CSG_mk1 (PLG2_push p2 hE (by omega) (by rw [s.2.2]; exact h17) (fun _ => ⟨by omega, by omega, Or.inl (by omega)⟩)) ?_ (Or.inl (Int.le_refl 1))
  have rr := SETG_3 h k hs (by omega)
  have hd := SETG_hd (K := K) hs (show bdn b < a from by omega) 3 (pI g 9)
  rw [CGM_push hE hq.1 s, ho, hr]
  exact rr.tr (RUNG.st (G.join k hc (by rw [← ha]; exact hd)))
/-- the innermost bracket lies on top, behind settle -/
theorem INN_top (hi : INN g (pI g 23) o) (h31 : o = 31 ∨ o = 30) (hq : SETQ g gs a) (h1 : 1 ≤ pI gs 23) (h30 : 30 ≤ pP gs (pI gs 23 - 1)) : pP gs (pI gs 23 - 1) = o := by
  have e : pP gs = pP g := pE_c hq.2.2.1
  rw [e] at h30 ⊢
  rcases hi with ⟨x, _⟩ | ⟨_, k, k0, k1, k2, k3⟩
  · omega
  · have k2' : pP g k = o := k2
    have a1 : ¬ k < pI gs 23 - 1 := fun z => by
      have := k3 (pI gs 23 - 1) z (by have := hq.2.1; omega)
      have w : pP g (pI gs 23 - 1) < 30 := this
      omega
    have a2 : ¬ pI gs 23 ≤ k := fun z => by
      have := (hq.2.2.2 k z k1).1
      omega
    rw [show pI gs 23 - 1 = k by omega]
    exact k2'
/-- the bracket on top goes -/
theorem CGM_popB {p : Int} (hA : gA g' 240 = gA gs 240) (hB : gA g' 241 = gA gs 241) (hp : pI g' 23 = pI gs 23 - 1) (h1 : 1 ≤ pI gs 23) : CGM gs t b K p = (t, (pP gs (pI gs 23 - 1), pE gs 241 (pI gs 23 - 1)) :: PLF (pP g') (pE g' 241) b (pI g' 23), pI gs 17, OG gs, AG gs, K, p) := by
  unfold CGM
  rw [show pP g' = pP gs from pE_c hA, pE_c hB, PLF_s (p := pI g' 23) (p' := pI gs 23) (by omega) (by omega), hp]
theorem MG_sqE (h : CSG T n c0 g b 3 K) (k : TOK T n (pI g 9) c (pI g' 9)) (hc : c = 6) (hi : INN g (pI g 23) o) (ho : o = 31) (hs : SETG g gs a) (ha : a = 5) (hq : SETQ g gs a) (hA : gA g' 240 = gA gs 240) (hB : gA g' 241 = gA gs 241) (hp : pI g' 23 = pI gs 23 - 1) (h1 : 1 ≤ pI gs 23) (h30 : 30 ≤ pP gs (pI gs 23 - 1)) (s : SMG gs g') (h17 : 0 ≤ pI gs 17) : CSG T n c0 g' b 3 K := by
  have p := h.1
  have l3 := lea_3 c
  have tp := INN_top hi (Or.inl ho) hq h1 h30
  have p2 : PLG2 gs b 3 := PLG2_less p hq.2.2.1 hq.1 hq.2.1 h17 (fun _ => ⟨by omega, by omega⟩)
  refine CSG_mk1 (PLG2_less p2 hA (by omega) (by omega) (by rw [s.2.2]; exact h17) (fun _ => ⟨by omega, by omega⟩)) ?_ (Or.inr rfl)
  have rr := SETG_3 h k hs (by omega)
  rw [CGM_popB hA hB hp h1, tp, ho] at rr
  have x := rr.tr (RUNG.st (G.sqE k hc))
  unfold CGM
  rw [s.1, s.2.1, s.2.2]
  exact x
theorem MG_sum (h : CSG T n c0 g b 3 K) (hb : b = 33) (k : TOK T n (pI g 9) c q) (hc : ¬ (20 ≤ c ∧ c ≤ 23)) (hi : INN g (pI g 23) o) (ho : o = -1) (hA : gA g' 240 = gA g 240) (hB : gA g' 241 = gA g 241) (hp : pI g' 23 = pI g 23) (s : SMG g g') (h9 : pI g' 9 = pI g 9) : CSG T n c0 g' b 4 K := by
  have p := h.1
  have e : pP g' = pP g := pE_c hA
  refine ⟨PLG2_eq p hA hp (by rw [s.2.2]; exact p.2.2.1) (fun _ => ⟨by omega, by omega⟩), fun x => by omega, fun x => by omega, fun _ => ⟨?_, ⟨c, q, by rw [h9]; exact k, fun z => by omega, fun _ => hc⟩, fun _ => ?_⟩⟩
  · rw [e, hp]
    rcases hi with ⟨_, x⟩ | ⟨x, _⟩
    · exact x
    · omega
  · rw [CGM_same hA hB hp, s.1, s.2.1, s.2.2, h9]
    exact CSG_run h (Or.inr rfl)
theorem ACF_of : ∀ (k : Nat) {P Q : Int → Int} {b j : Int}, 0 ≤ j → j < (k : Int) → (24 ≤ P j ∧ P j ≤ 26) → (∀ i : Int, j < i → i < (k : Int) → 20 ≤ P i ∧ P i ≤ 23) → ACF (plF P Q b k)
  | 0, P, Q, b, j, h0, h1, _, _ => absurd h1 (by omega)
  | k + 1, P, Q, b, j, h0, h1, h2, h3 => by
    by_cases d : j = (k : Int)
    · exact Or.inl (by rw [d] at h2; exact h2)
    · exact Or.inr ⟨h3 (k : Int) (by omega) (by omega), ACF_of k h0 (by omega) h2 (fun i i0 i1 => h3 i i0 (by omega))⟩
theorem MG_told (h : CSG T n c0 g b 3 K) (hb : b = 34) (k : TOK T n (pI g 9) c q) (hc : ¬ (20 ≤ c ∧ c ≤ 23)) (hr : CMPD g r) (hr1 : r ≠ 0) (hA : gA g' 240 = gA g 240) (hB : gA g' 241 = gA g 241) (hp : pI g' 23 = pI g 23) (s : SMG g g') (h9 : pI g' 9 = pI g 9) : CSG T n c0 g' b 2 K := by
  have p := h.1
  refine CSG_mk2 (PLG2_eq p hA hp (by rw [s.2.2]; exact p.2.2.1) (fun z => by omega)) ?_
  rw [CGM_same hA hB hp, s.1, s.2.1, s.2.2, h9]
  right
  refine ⟨CSG_run h (Or.inr rfl), ?_, c, q, k, hc⟩
  rcases hr with ⟨_, j, j0, j1, j2, j3⟩ | ⟨x, _⟩
  · have p0 := p.2.1
    exact ACF_of _ j0 (by omega) j2 (fun i i0 i1 => ⟨(p.2.2.2.1 i (by omega) (by omega)).1, j3 i i0 (by omega)⟩)
  · exact absurd x hr1
theorem MG_cmp (h : CSG T n c0 g b 3 K) (hb : b = 34) (k : TOK T n (pI g 9) c (pI g' 9)) (hc : 24 ≤ c ∧ c ≤ 26) (hi : INN g (pI g 23) o) (ho : o ≠ 31) (hr : CMPD g r) (hr1 : r = 0) (hs : SETG g gs a) (ha : a = 5) (hq : SETQ g gs a) {o2 a2 : Int} (hE : PUSH gs g' o2 a2) (ho2 : o2 = c) (ha2 : a2 = 0) (s : SMG gs g') (h17 : 0 ≤ pI gs 17) : CSG T n c0 g' b 1 K := by
  have p := h.1
  have l3 := lea_3 c
  have pb := PLG2_b p
  have p2 : PLG2 gs b 1 := PLG2_less p hq.2.2.1 hq.1 hq.2.1 h17 (fun _ => ⟨by omega, by omega⟩)
  refine CSG_mk1 (PLG2_push p2 hE (by omega) (by rw [s.2.2]; exact h17) (fun z => by omega)) ?_ (Or.inl (Int.le_refl 1))
  have rr := SETG_3 h k hs (by omega)
  have hd := SETG_hd (K := K) hs (show bdn b < a from by omega) 3 (pI g 9)
  have e : pP gs = pP g := pE_c hq.2.2.1
  rw [CGM_push hE hq.1 s, ho2, ha2]
  have hx : hdo (CGM gs 3 b K (pI g 9)).2.1 ≠ 31 ∧ hdo (CGM gs 3 b K (pI g 9)).2.1 ≠ 33 ∧ ¬ (24 ≤ hdo (CGM gs 3 b K (pI g 9)).2.1 ∧ hdo (CGM gs 3 b K (pI g 9)).2.1 ≤ 26) := by
    by_cases d : 0 < pI gs 23
    · rw [CGM_hd d] at hd ⊢
      have rg := p2.2.2.2.1 (pI gs 23 - 1) (by omega) (by omega)
      have bb := bdn_rg (pP gs (pI gs 23 - 1))
      rw [e] at hd rg bb ⊢
      have n31 : pP g (pI gs 23 - 1) ≠ 31 := fun z => by
        rcases hi with ⟨_, x⟩ | ⟨o30, j, j0, j1, j2, j3⟩
        · have : pP g (pI gs 23 - 1) < 30 := x (pI gs 23 - 1) (by omega) (by have := hq.2.1; omega)
          omega
        · have j2' : pP g j = o := j2
          have a1 : ¬ j < pI gs 23 - 1 := fun w => by
            have : pP g (pI gs 23 - 1) < 30 := j3 (pI gs 23 - 1) w (by have := hq.2.1; omega)
            omega
          by_cases a2 : j = pI gs 23 - 1
          · rw [a2] at j2'
            omega
          · have : pP g j < 30 := (hq.2.2.2 j (by omega) j1).1
            omega
      have cm : ¬ (24 ≤ pP g (pI gs 23 - 1) ∧ pP g (pI gs 23 - 1) ≤ 26) := fun w => by
        rcases hr with ⟨x, _⟩ | ⟨_, x | ⟨j, j0, j1, j2, j3⟩⟩
        · omega
        · have := x (pI gs 23 - 1) (by omega) (by have := hq.2.1; omega)
          omega
        · by_cases a1 : j < pI gs 23 - 1
          · have := j3 (pI gs 23 - 1) a1 (by have := hq.2.1; omega)
            omega
          · by_cases a2 : j = pI gs 23 - 1
            · rw [a2] at j2
              omega
            · have := (hq.2.2.2 j (by omega) j1).2 (by omega)
              have := p.2.2.2.1 j j0 j1
              omega
      exact ⟨n31, by omega, cm⟩
    · rw [CGM_hz (by omega)]
      omega
  exact rr.tr (RUNG.st (G.cmp k hc hx (by rw [← ha]; exact hd)))
/-- settled behind a test -/
theorem SETG_2 (h : CSG T n c0 g b 2 K) (k : TOK T n (pI g 9) c q) (hs : SETG g gs a) (ha : lea 2 c = a) : RUNG T n c0 (CGM gs 2 b K (pI g 9)) := by
  have p := h.1
  have pb := PLG2_b p
  have l2 := lea_2 c
  have x := PPS_2 (hs.1 2 b K (pI g 9)) k (Int.le_of_eq ha) (CSG_tld h rfl)
  have hd := SETG_hd (K := K) hs (show bdn b < a from by omega) 2 (pI g 9)
  exact TLD_end x (by omega)
theorem MG_andor (h : CSG T n c0 g b 2 K) (k : TOK T n (pI g 9) c (pI g' 9)) (hc : 28 ≤ c ∧ c ≤ 29) (hs : SETG g gs a) (ha : a = lea 2 c) (hq : SETQ g gs a) {o2 a2 : Int} (hE : PUSH gs gx o2 a2) (ho2 : o2 = c) (ha2 : a2 = pI gs 17) (s1 : SMG gs gx) (h17 : 0 ≤ pI gs 17) (hA : gA g' 240 = gA gx 240) (hB : gA g' 241 = gA gx 241) (hp : pI g' 23 = pI gx 23) {o3 a3 : Int} (e : EMG gx g' o3 a3) (ho3 : o3 = c) (ha3 : a3 = 0) : CSG T n c0 g' b 0 K := by
  have p := h.1
  have l2 := lea_2 c
  have pb := PLG2_b p
  have b34 : ¬ b = 33 := fun z => absurd rfl (p.2.2.2.2 z).2.1
  have p2 : PLG2 gs b 1 := PLG2_less p hq.2.2.1 hq.1 hq.2.1 h17 (fun z => absurd z b34)
  have p3 : PLG2 gx b 0 := PLG2_push p2 hE (by omega) (by rw [s1.2.2]; exact h17) (fun z => absurd z b34)
  have e17 := e.2.2
  have x17 := p3.2.2.1
  refine CSG_mk1 (PLG2_eq p3 hA hp (by omega) (fun z => absurd z b34)) ?_ (Or.inl (by decide))
  have rr := SETG_2 h k hs ha.symm
  have hd := SETG_hd (K := K) hs (show bdn b < a from by omega) 2 (pI g 9)
  have g1 := CGM_push (t := 0) (b := b) (p := 0) (K := K) hE hq.1 s1
  rw [ho2, ha2] at g1
  have hF : PLF (pP gx) (pE gx 241) b (pI gx 23) = (c, pI gs 17) :: PLF (pP gs) (pE gs 241) b (pI gs 23) := congrArg (fun z : CG => z.2.1) g1
  rw [CGM_same hA hB hp, hF, e.1, e.2.1, e.2.2, s1.1, s1.2.1, s1.2.2, ho3, ha3]
  exact rr.tr (RUNG.st (G.andor k hc (by rw [← ha]; exact hd)))
theorem MG_test (h : CSG T n c0 g b 2 K) (k : TOK T n (pI g 9) c q) (hc : ¬ (28 ≤ c ∧ c ≤ 29)) (hi : INN g (pI g 23) o) (ho : o = -1) (hA : gA g' 240 = gA g 240) (hB : gA g' 241 = gA g 241) (hp : pI g' 23 = pI g 23) (s : SMG g g') (h9 : pI g' 9 = pI g 9) : CSG T n c0 g' b 4 K := by
  have p := h.1
  have b34 : ¬ b = 33 := fun z => absurd rfl (p.2.2.2.2 z).2.1
  have e : pP g' = pP g := pE_c hA
  refine ⟨PLG2_eq p hA hp (by rw [s.2.2]; exact p.2.2.1) (fun z => absurd z b34), fun x => by omega, fun _ => ?_, fun _ => ⟨?_, ⟨c, q, by rw [h9]; exact k, fun _ => hc, fun z => absurd z b34⟩, fun z => absurd z b34⟩⟩
  · rw [CGM_same hA hB hp, s.1, s.2.1, s.2.2, h9]
    exact CSG_tld h rfl
  · rw [e, hp]
    rcases hi with ⟨_, x⟩ | ⟨x, _⟩
    · exact x
    · omega
theorem MG_rndE (h : CSG T n c0 g b 2 K) (k : TOK T n (pI g 9) c (pI g' 9)) (hc : c = 9) (hi : INN g (pI g 23) o) (ho : o = 30) (hs : SETG g gs a) (ha : a = 1) (hq : SETQ g gs a) (hA : gA g' 240 = gA gs 240) (hB : gA g' 241 = gA gs 241) (hp : pI g' 23 = pI gs 23 - 1) (h1 : 1 ≤ pI gs 23) (h30 : 30 ≤ pP gs (pI gs 23 - 1)) (s : SMG gs g') (h17 : 0 ≤ pI gs 17) : CSG T n c0 g' b 2 K := by
  have p := h.1
  have l2 := lea_2 c
  have b34 : ¬ b = 33 := fun z => absurd rfl (p.2.2.2.2 z).2.1
  have tp := INN_top hi (Or.inr ho) hq h1 h30
  have p2 : PLG2 gs b 1 := PLG2_less p hq.2.2.1 hq.1 hq.2.1 h17 (fun z => absurd z b34)
  refine CSG_mk2 (PLG2_less p2 hA (by omega) (by omega) (by rw [s.2.2]; exact h17) (fun z => absurd z b34)) ?_
  have rr := SETG_2 h k hs (by omega)
  rw [CGM_popB hA hB hp h1, tp, ho] at rr
  have x := rr.tr (RUNG.st (G.rndE k hc))
  left
  unfold CGM
  rw [s.1, s.2.1, s.2.2]
  exact x
/-- the end of an expression: all is settled -/
theorem MG_end (h : CSG T n c0 g b 4 K) (hs : SETG g gs a) (ha : a = 1) (hq : SETQ g gs a) (h9 : pI gs 9 = pI g 9) : RUNG T n c0 ((if b = 33 then 7 else 8), [], pI gs 17, OG gs, AG gs, (if b = 33 then lstC (pI gs 17) (pI gs 17) K else lstC (lstM K) (pI gs 17) K), pI gs 9) := by
  obtain ⟨p, _, h2, h4⟩ := h
  obtain ⟨h5, ⟨c, q, h6, h7, h8⟩, h90⟩ := h4 rfl
  rw [h9]
  have l3 := lea_3 c
  have l2 := lea_2 c
  have e : pP gs = pP g := pE_c hq.2.2.1
  have z0 : pI gs 23 = 0 := by
    have x := hq.1
    by_cases d : 0 < pI gs 23
    · have y := hs.2 d
      have w := h5 (pI gs 23 - 1) (by omega) (by have := hq.2.1; omega)
      rw [e] at y
      have bb := bdn_rg (pP g (pI gs 23 - 1))
      omega
    · omega
  have F0 : PLF (pP gs) (pE gs 241) b (pI gs 23) = [(b, 0)] := PLF_z (Int.le_of_eq z0)
  by_cases b3 : b = 33
  · rw [if_pos b3, if_pos b3]
    have hc := h8 b3
    have pl := (p.2.2.2.2 b3).2.2
    have p5 : PPS 5 (CGM g 3 b K (pI g 9)) (CGM gs 3 b K (pI g 9)) := by
      obtain ⟨m, hm⟩ := hs.1 3 b K (pI g 9)
      rw [ha] at hm
      exact ⟨m, pops_ar m hm (plF_all (φ := fun f => (20 ≤ f.1 ∧ f.1 ≤ 23) ∨ 30 ≤ f.1) _ (fun j j0 j1 => by
        have u := pl j j0 (by omega)
        have w := h5 j j0 (by omega)
        have v := p.2.2.2.1 j j0 (by omega)
        have e1 : pP g j = pE g 240 j := rfl
        exact Or.inl ⟨by show 20 ≤ pP g j; omega, by show pP g j ≤ 23; omega⟩) (Or.inr (by show 30 ≤ b; omega)))⟩
    have y := PPS_3 p5 rfl h6 (by omega) (h90 b3)
    have w : CGM gs 3 b K (pI g 9) = (3, (33, 0) :: [], pI gs 17, OG gs, AG gs, K, pI g 9) := by
      unfold CGM
      rw [F0, b3]
    rw [w] at y
    exact y.tr (RUNG.st (G.sum h6 hc))
  · rw [if_neg b3, if_neg b3]
    have b4 : b = 34 := p.1.resolve_left b3
    have h7' := h7 b4
    have x := PPS_2 (hs.1 2 b K (pI g 9)) h6 (by omega) (h2 (Or.inr ⟨rfl, b4⟩))
    have y := TLD_end x (by rw [CGM_hz (by omega), b4, bdn_34]; decide)
    have w : CGM gs 2 b K (pI g 9) = (2, (34, 0) :: [], pI gs 17, OG gs, AG gs, K, pI g 9) := by
      unfold CGM
      rw [F0, b4]
    have y' : RUNG T n c0 (CGM gs 2 b K (pI g 9)) := y
    rw [w] at y'
    exact y'.tr (RUNG.st (G.test h6 h7'))
end MGS
/-- a base and whether it is a test -/
def HBG (a b : Int) : Prop := (b = 33 ∧ a = 0) ∨ (b = 34 ∧ a ≠ 0)
/-- between expressions -/
def RGM (T : Int → Int) (n : Int) (c0 : CG) (g : List en_E) (t : Int) (F : List (Int × Int)) (K : List CLR) : Prop := RUNG T n c0 (t, F, pI g 17, OG g, AG g, K, pI g 9)
/-- an expression, read -/
def XPG (g g' : List en_E) (a : Int) : Prop := pI g' 14 = 0 → ∀ (c0 : CG) (b : Int) (K : List CLR), HBG a b → RGM (TM g) (nM g) c0 g (if b = 33 then 1 else 0) [(b, 0)] K → RGM (TM g) (nM g) c0 g' (if b = 33 then 7 else 8) [] (if b = 33 then lstC (pI g' 17) (pI g' 17) K else lstC (lstM K) (pI g' 17) K)
/-- from its start to a turn -/
def MXG (g0 g : List en_E) (a t : Int) : Prop := pI g 14 = 0 → ∀ (c0 : CG) (b : Int) (K : List CLR), HBG a b → RGM (TM g0) (nM g0) c0 g0 (if b = 33 then 1 else 0) [(b, 0)] K → CSG (TM g0) (nM g0) c0 g b t K
section RGMS
variable {T : Int → Int} {n : Int} {c0 : CG} {g g' gx : List en_E} {t c q a : Int} {F : List (Int × Int)} {K : List CLR}
theorem RGM_eq (h : RGM T n c0 g t F K) (s : SMG g g') (h9 : pI g' 9 = pI g 9) : RGM T n c0 g' t F K := by
  unfold RGM at *
  rw [s.1, s.2.1, s.2.2, h9]
  exact h
theorem RGM_head (h : RGM T n c0 g 6 [] K) (k : TOK T n (pI g 9) c (pI g' 9)) (hc : 11 ≤ c ∧ c ≤ 12) (s : SMG g g') : RGM T n c0 g' 1 [(33, 0)] ((c - 11, pI g 17, pI g 17, pI g 17) :: K) := by
  unfold RGM at *
  rw [s.1, s.2.1, s.2.2]
  exact h.tr (RUNG.st (G.cls k hc))
theorem RGM_headB (h : RGM T n c0 g 6 [] K) (k : TOK T n (pI g 9) c (pI g' 9)) (hc : c = 13) (s : SMG g g') : RGM T n c0 g' 7 [] ((2, pI g 17, pI g 17, pI g 17) :: K) := by
  unfold RGM at *
  rw [s.1, s.2.1, s.2.2]
  exact h.tr (RUNG.st (G.clsB k hc))
theorem RGM_if (h : RGM T n c0 g 7 [] K) (k : TOK T n (pI g 9) c (pI g' 9)) (hc : c = 10) (s : SMG g g') : RGM T n c0 g' 0 [(34, 0)] K := by
  unfold RGM at *
  rw [s.1, s.2.1, s.2.2]
  exact h.tr (RUNG.st (G.if_ k hc))
theorem RGM_noif (h : RGM T n c0 g 7 [] K) (k : TOK T n (pI g 9) c q) (hc : c ≠ 10) : RGM T n c0 g 8 [] K := h.tr (RUNG.st (G.noif k hc))
theorem RGM_semi (h : RGM T n c0 g 8 [] K) (k : TOK T n (pI g 9) c (pI g' 9)) (hc : c = 14) (s : SMG g g') : RGM T n c0 g' 6 [] K := by
  unfold RGM at *
  rw [s.1, s.2.1, s.2.2]
  exact h.tr (RUNG.st (G.semi k hc))
theorem RGM_fin (h : RGM T n c0 g 8 [] K) (k : TOK T n (pI g 9) c q) (hc : c = 0) : RGM T n c0 g 9 [] K := h.tr (RUNG.st (G.fin k hc))
theorem XPG_sum (x : XPG g g' 0) (h14 : pI g' 14 = 0) (hT : TM g = T) (hn : nM g = n) (h : RGM T n c0 g 1 [(33, 0)] K) : RGM T n c0 g' 7 [] (lstC (pI g' 17) (pI g' 17) K) := by
  subst hT hn
  exact x h14 c0 33 K (Or.inl ⟨rfl, rfl⟩) h
theorem XPG_test {a : Int} (x : XPG g g' a) (ha : a = 1) (h14 : pI g' 14 = 0) (hT : TM g = T) (hn : nM g = n) (h : RGM T n c0 g 0 [(34, 0)] K) : RGM T n c0 g' 8 [] (lstC (lstM K) (pI g' 17) K) := by
  subst hT hn
  exact x h14 c0 34 K (Or.inr ⟨rfl, by omega⟩) h
theorem CSG_start {b : Int} (hb : HBG a b) (h23 : pI g 23 = 0) (h17 : 0 ≤ pI g 17) (h : RGM T n c0 g (if b = 33 then 1 else 0) [(b, 0)] K) : CSG T n c0 g b (if b = 33 then 1 else 0) K := by
  have F0 : PLF (pP g) (pE g 241) b (pI g 23) = [(b, 0)] := PLF_z (Int.le_of_eq h23)
  have e : ∀ t, CGM g t b K (pI g 9) = (t, [(b, 0)], pI g 17, OG g, AG g, K, pI g 9) := fun t => by
    unfold CGM
    rw [F0]
  have pl : ∀ t, (b = 33 → t = 1) → PLG2 g b t := fun t ht => ⟨by unfold HBG at hb; omega, by omega, h17, fun j j0 j1 => absurd j1 (by omega), fun z => ⟨by have := ht z; omega, by have := ht z; omega, fun j j0 j1 => absurd j1 (by omega)⟩⟩
  rcases hb with ⟨e1, e2⟩ | ⟨e1, e2⟩
  · rw [if_pos e1] at h ⊢
    refine CSG_mk1 (pl 1 (fun _ => rfl)) ?_ (Or.inl (Int.le_refl 1))
    rw [e 1]
    exact h
  · rw [if_neg (show ¬ b = 33 from by omega)] at h ⊢
    refine CSG_mk1 (pl 0 (fun z => by omega)) ?_ (Or.inl (by decide))
    rw [e 0]
    exact h
theorem CSG_tt {b t' : Int} (h : CSG T n c0 g b t K) (e : t = t') : CSG T n c0 g b t' K := by rw [← e]; exact h
/-- the heap else as it was -/
theorem CSG_eqv {b : Int} (h : CSG T n c0 g b t K) (a0 : gA g' 240 = gA g 240) (b0 : gA g' 241 = gA g 241) (p0 : gI g' 231 23 = gI g 231 23) (s : SMG g g') (h9 : pI g' 9 = pI g 9) : CSG T n c0 g' b t K := by
  have e : ∀ t, CGM g' t b K (pI g 9) = CGM g t b K (pI g 9) := fun t => CGM_fr a0 b0 p0 s
  have eP : pP g' = pP g := pE_c a0
  have ep : pI g' 23 = pI g 23 := pI.c p0
  unfold CSG PLG2 at *
  rw [h9, e, e, e, eP, ep, s.2.2]
  exact h
theorem MGT_fr {r : Int} {C : Int → Prop} (m : MGT gx g' t r C) (hT : gA gx 236 = gA g 236) (hn : gI gx 231 8 = gI g 231 8) (a0 : gA gx 240 = gA g 240) (b0 : gA gx 241 = gA g 241) (p0 : gI gx 231 23 = gI g 231 23) (s : SMG g gx) (h9 : pI gx 9 = pI g 9) : MGT g g' t r C := fun h14 c0 b K hC h => by
  have z := m h14 c0 b K hC
  rw [TM.c hT, nM.c hn] at z
  exact z (CSG_eqv h a0 b0 p0 s h9)
theorem MGT_base {g0 : List en_E} {r : Int} {C : Int → Prop} (m : MGT g g' t r C) (hT : gA g 236 = gA g0 236) (hn : gI g 231 8 = gI g0 231 8) : pI g' 14 = 0 → ∀ (c0 : CG) (b : Int) (K : List CLR), C b → CSG (TM g0) (nM g0) c0 g b t K → CSG (TM g0) (nM g0) c0 g' b r K := fun h14 c0 b K hC h => by
  have z := m h14 c0 b K hC
  rw [TM.c hT, nM.c hn] at z
  exact z h
end RGMS
/-- clauses, the latest ahead -/
def klG (N : Int → Int) : Nat → List CLR
  | 0 => []
  | k + 1 => (N (8 * (k : Int)), N (8 * (k : Int) + 3), N (8 * (k : Int) + 4), N (8 * (k : Int) + 6)) :: klG N k
theorem klG_c {N N' : Int → Int} : ∀ k : Nat, (∀ i : Int, 0 ≤ i → i < 8 * (k : Int) → N i = N' i) → klG N k = klG N' k
  | 0, _ => rfl
  | k + 1, h => by
    have ih := klG_c k (fun i i0 i1 => h i i0 (by omega))
    show (N (8 * (k : Int)), N (8 * (k : Int) + 3), N (8 * (k : Int) + 4), N (8 * (k : Int) + 6)) :: klG N k = (N' (8 * (k : Int)), N' (8 * (k : Int) + 3), N' (8 * (k : Int) + 4), N' (8 * (k : Int) + 6)) :: klG N' k
    rw [ih, h _ (by omega) (by omega), h _ (by omega) (by omega), h _ (by omega) (by omega), h _ (by omega) (by omega)]
theorem klG_len (N : Int → Int) : ∀ k : Nat, (klG N k).length = k
  | 0 => rfl
  | k + 1 => by
    show (klG N k).length + 1 = k + 1
    rw [klG_len N k]
def KLG (g : List en_E) : List CLR := klG (pE g 237) (pI g 15).toNat
theorem KLG_z {g : List en_E} (h : pI g 15 = 0) : KLG g = [] := by
  unfold KLG
  rw [h]
  rfl
theorem KLG_c {g g' : List en_E} (h : gA g' 237 = gA g 237) (e : pI g' 15 = pI g 15) : KLG g' = KLG g := by
  unfold KLG
  rw [pE_c h, e]
/-- a clause more -/
theorem KLG_s {g g' : List en_E} {h a m e : Int} (h0 : 0 ≤ pI g 15) (hk : pI g' 15 = pI g 15 + 1) (hN : ∀ i : Int, 0 ≤ i → i < 8 * pI g 15 → eA g' 237 i = eA g 237 i) (e0 : pE g' 237 (8 * pI g 15) = h) (e3 : pE g' 237 (8 * pI g 15 + 3) = a) (e4 : pE g' 237 (8 * pI g 15 + 4) = m) (e6 : pE g' 237 (8 * pI g 15 + 6) = e) : KLG g' = (h, a, m, e) :: KLG g := by
  unfold KLG
  rw [show (pI g' 15).toNat = (pI g 15).toNat + 1 by omega]
  show (pE g' 237 (8 * (((pI g 15).toNat : Nat) : Int)), pE g' 237 (8 * (((pI g 15).toNat : Nat) : Int) + 3), pE g' 237 (8 * (((pI g 15).toNat : Nat) : Int) + 4), pE g' 237 (8 * (((pI g 15).toNat : Nat) : Int) + 6)) :: klG (pE g' 237) (pI g 15).toNat = _
  rw [show (((pI g 15).toNat : Nat) : Int) = pI g 15 by omega, e0, e3, e4, e6, klG_c (N' := pE g 237) _ (fun i i0 i1 => congrArg Int32.toInt (hN i i0 (by omega)))]
/-- a clause, read -/
def N45 (g : List en_E) : Prop := ∀ c : Int, 0 ≤ c → c < pI g 15 → pE g 237 (8 * c + 5) = pE g 237 (8 * c + 4)
theorem N45_z {g : List en_E} (h : pI g 15 = 0) : N45 g := fun c c0 c1 => absurd c1 (by omega)
theorem N45_c {g g' : List en_E} (h : gA g' 237 = gA g 237) (e : pI g' 15 = pI g 15) (n : N45 g) : N45 g' := by
  unfold N45
  rw [pE_c h, e]
  exact n
theorem N45_s {g g' : List en_E} (n : N45 g) (hk : pI g' 15 = pI g 15 + 1) (hN : ∀ i : Int, 0 ≤ i → i < 8 * pI g 15 → eA g' 237 i = eA g 237 i) {m : Int} (e4 : pE g' 237 (8 * pI g 15 + 4) = m) (e5 : pE g' 237 (8 * pI g 15 + 5) = m) : N45 g' := fun c c0 c1 => by
  by_cases d : c = pI g 15
  · rw [d, e4, e5]
  · have a : pE g' 237 (8 * c + 5) = pE g 237 (8 * c + 5) := congrArg Int32.toInt (hN _ (by omega) (by omega))
    have b : pE g' 237 (8 * c + 4) = pE g 237 (8 * c + 4) := congrArg Int32.toInt (hN _ (by omega) (by omega))
    rw [a, b]
    exact n c c0 (by omega)
def CPG (g g' : List en_E) : Prop := pI g' 14 = 0 → (N45 g → N45 g') ∧ ∀ c0 : CG, RGM (TM g) (nM g) c0 g 6 [] (KLG g) → RGM (TM g) (nM g) c0 g' 8 [] (KLG g')
theorem CPG_at {gc g g0 : List en_E} (m : CPG gc g) (hT : gA gc 236 = gA g0 236) (hn : gI gc 231 8 = gI g0 231 8) (h14 : pI g 14 = 0) {c0 : CG} (h : N45 gc ∧ RGM (TM g0) (nM g0) c0 gc 6 [] (KLG gc)) : N45 g ∧ RGM (TM g0) (nM g0) c0 g 8 [] (KLG g) := by
  have z := (m h14).2 c0
  rw [TM.c hT, nM.c hn] at z
  exact ⟨(m h14).1 h.1, z h.2⟩
/-- the whole text, so far -/
def RGL (g0 g : List en_E) (p : Int) : Prop := pI g 14 = 0 → N45 g ∧ RGM (TM g0) (nM g0) (6, [], 0, OG g0, AG g0, [], p) g 8 [] (KLG g)
theorem RGL_start {g0 g : List en_E} {p : Int} (s : SMG g0 g ∨ (OG g = OG g0 ∧ AG g = AG g0)) (h17 : pI g 17 = 0) (h15 : pI g 15 = 0) (h9 : pI g 9 = p) : N45 g ∧ RGM (TM g0) (nM g0) (6, [], 0, OG g0, AG g0, [], p) g 6 [] (KLG g) := by
  have e : OG g = OG g0 ∧ AG g = AG g0 := s.elim (fun x => ⟨x.1, x.2.1⟩) id
  refine ⟨N45_z h15, ?_⟩
  unfold RGM
  rw [KLG_z h15, h17, e.1, e.2, h9]
  exact RUNG.rf rfl
theorem RGL_semi {g0 g g' : List en_E} {c p : Int} (h : RGL g0 g p) (h14 : pI g 14 = 0) (k : TOK (TM g0) (nM g0) (pI g 9) c (pI g' 9)) (hc : c = 14) (s : SMG g g') (h37 : gA g' 237 = gA g 237) (h15 : pI g' 15 = pI g 15) : N45 g' ∧ RGM (TM g0) (nM g0) (6, [], 0, OG g0, AG g0, [], p) g' 6 [] (KLG g') := by
  obtain ⟨a, b⟩ := h h14
  refine ⟨N45_c h37 h15 a, ?_⟩
  rw [KLG_c h37 h15]
  exact RGM_semi b k hc s
/-! a law as the reference keeps it -/
/-- a row's clauses -/
def MCL (R : Int → Int) : Nat → List CLR → Prop
  | 0, L => L = []
  | k + 1, L => ∃ z r, L = z :: r ∧ R (2 + 8 * (k : Int)) = z.1 ∧ R (2 + 8 * (k : Int) + 3) = z.2.1 ∧ R (2 + 8 * (k : Int) + 4) = z.2.2.1 ∧ R (2 + 8 * (k : Int) + 5) = z.2.2.1 ∧ R (2 + 8 * (k : Int) + 6) = z.2.2.2 ∧ MCL R k r
theorem MCL_c {R R' : Int → Int} : ∀ (k : Nat) {L : List CLR}, (∀ i : Int, 2 ≤ i → i < 2 + 8 * (k : Int) → R i = R' i) → MCL R k L → MCL R' k L
  | 0, L, _, h => h
  | k + 1, L, e, h => by
    obtain ⟨z, r, h1, h2, h3, h4, h5, h6, h7⟩ := h
    exact ⟨z, r, h1, (e _ (by omega) (by omega)).symm.trans h2, (e _ (by omega) (by omega)).symm.trans h3, (e _ (by omega) (by omega)).symm.trans h4, (e _ (by omega) (by omega)).symm.trans h5, (e _ (by omega) (by omega)).symm.trans h6, MCL_c k (fun i i0 i1 => e i i0 (by omega)) h7⟩
theorem MCL_kl {R N : Int → Int} : ∀ k : Nat, (∀ i : Int, 0 ≤ i → i < 8 * (k : Int) → R (2 + i) = N i) → (∀ c : Int, 0 ≤ c → c < (k : Int) → N (8 * c + 5) = N (8 * c + 4)) → MCL R k (klG N k)
  | 0, _, _ => rfl
  | k + 1, h, e => ⟨_, _, rfl, h _ (by omega) (by omega), (by rw [show 2 + 8 * (k : Int) + 3 = 2 + (8 * (k : Int) + 3) by omega]; exact h _ (by omega) (by omega)), (by rw [show 2 + 8 * (k : Int) + 4 = 2 + (8 * (k : Int) + 4) by omega]; exact h _ (by omega) (by omega)), (by rw [show 2 + 8 * (k : Int) + 5 = 2 + (8 * (k : Int) + 5) by omega]; exact (h _ (by omega) (by omega)).trans (e _ (by omega) (by omega))), (by rw [show 2 + 8 * (k : Int) + 6 = 2 + (8 * (k : Int) + 6) by omega]; exact h _ (by omega) (by omega)), MCL_kl k (fun i i0 i1 => h i i0 (by omega)) (fun c c0 c1 => e c c0 (by omega))⟩
/-- a law's row: how many clauses, the clauses, the code -/
def MLW (R : Int → Int) (N : Int) (O A : Int → Int) (L : List CLR) : Prop := R 1 = (L.length : Int) ∧ MCL R L.length L ∧ L.length ≤ 12 ∧ 0 ≤ N ∧ N ≤ 400 ∧ ∀ i : Int, 0 ≤ i → i < N → R (98 + 2 * i) = O i ∧ R (98 + 2 * i + 1) = A i
theorem MLW_c {R R' : Int → Int} {N : Int} {O A : Int → Int} {L : List CLR} (h : MLW R N O A L) (e : ∀ i : Int, 1 ≤ i → i < 900 → R i = R' i) : MLW R' N O A L := by
  obtain ⟨h1, h2, h3, h4, h5, h6⟩ := h
  exact ⟨(e 1 (by omega) (by omega)).symm.trans h1, MCL_c _ (fun i i0 i1 => e i (by omega) (by omega)) h2, h3, h4, h5, fun i i0 i1 => ⟨(e _ (by omega) (by omega)).symm.trans (h6 i i0 i1).1, (e _ (by omega) (by omega)).symm.trans (h6 i i0 i1).2⟩⟩
theorem CDM_dg {g : List en_E} (k : TKM g) (h : pI g 11 = 2) (h1 : wth g ≤ 1000) : CDM g = 100 + wth g := by
  have w := (k.2.1.2.2 h).resolve_right (by omega)
  have c : CDM g = if NUM (TM g) (pI g 9) (pI g 10) ≤ 1000 then 100 + NUM (TM g) (pI g 9) (pI g 10) else 15 := CDE.n h
  rw [c, if_pos (show NUM (TM g) (pI g 9) (pI g 10) ≤ 1000 from by omega), w]
theorem l2i_e {x : Int64} {v : Int32} (h : v = x.toInt32) (h0 : -1000000 ≤ x.toInt) (h1 : x.toInt ≤ 1000000) : v.toInt = x.toInt := by
  rw [h, Int64.toInt_toInt32]
  exact Int.bmod_eq_of_le (by omega) (by omega)
theorem EMG_e {g g' : List en_E} {o o' a a' : Int} (h : EMG g g' o a) (e : o = o') (e' : a = a') : EMG g g' o' a' := by
  rw [← e, ← e']
  exact h
theorem SMG_rf {g : List en_E} : SMG g g := ⟨rfl, rfl, rfl⟩
theorem PLG2_cm {g : List en_E} {b t r : Int} (p : PLG2 g b t) (h : CMPD g r) (hr : r ≠ 0) : b = 34 := by
  refine p.1.resolve_left (fun z => ?_)
  rcases h with ⟨_, k, k0, k1, k2, _⟩ | ⟨x, _⟩
  · have y := (p.2.2.2.2 z).2.2 k k0 k1
    omega
  · exact hr x
theorem PLG2_in {g : List en_E} {a b t r : Int} (p : PLG2 g b t) (hb : HBG a b) (h : INN g (pI g 23) r) (h1 : r ≠ 31) (h2 : r ≠ -1 ∨ a ≠ 0) : b = 34 := by
  refine p.1.resolve_left (fun z => ?_)
  rcases hb with ⟨e1, e2⟩ | ⟨e1, e2⟩
  · rcases h with ⟨x, _⟩ | ⟨x, k, k0, k1, k2, _⟩
    · omega
    · have y := (p.2.2.2.2 z).2.2 k k0 k1
      have k2' : pP g k = r := k2
      omega
  · omega
theorem HBG_33 {a b : Int} (h : HBG a b) (ha : a = 0) : b = 33 := by
  unfold HBG at h
  omega
/-- a law read: what the machine comes to, and the law's row -/
def LWG (g g' : List en_E) (r : Int) : Prop := r ≠ -6 → (eA g 233 2).toInt ≠ 6 → ∃ q N O A L p, SKP (TM g) (nM g) 0 q ∧ RUNG (TM g) (nM g) (6, [], 0, OG g, AG g, [], q) (9, [], N, O, A, L, p) ∧ MLW (fun i => (eA g' 233 (110 + 900 * (eA g 233 2).toInt + i)).toInt) N O A L
theorem LWG_mk {g0 gl gm g' : List en_E} {r q c p at_ : Int} (hq : SKP (TM g0) (nM g0) 0 p) (h : RGL g0 gl p) (h14 : pI gl 14 = 0) (k : TOK (TM g0) (nM g0) (pI gl 9) c q) (hc : c = 0) (s : SMG gl gm) (h37 : gA gm 237 = gA gl 237) (h15 : pI gm 15 = pI gl 15) (k0 : 0 ≤ pI gm 15 ∧ pI gm 15 ≤ 12) (n0 : 0 ≤ pI gm 17 ∧ pI gm 17 ≤ 400) (ea : at_ = 110 + 900 * (eA g0 233 2).toInt) (e1 : (eA g' 233 (at_ + 1)).toInt = pI gm 15) (e2 : ∀ i : Int, 0 ≤ i → i < 8 * pI gm 15 → (eA g' 233 (at_ + 2 + i)).toInt = (eA gm 237 i).toInt) (e3 : ∀ i : Int, 0 ≤ i → i < pI gm 17 → (eA g' 233 (at_ + 98 + 2 * i)).toInt = (eA gm 238 i).toInt ∧ (eA g' 233 (at_ + 98 + 2 * i + 1)).toInt = (eA gm 239 i).toInt) : LWG g0 g' r := fun _ _ => by
  obtain ⟨a, b⟩ := h h14
  have b2 := RGM_fin b k hc
  have hl : (KLG gl).length = (pI gm 15).toNat := by
    unfold KLG
    rw [klG_len, h15]
  have ek : (((pI gm 15).toNat : Nat) : Int) = pI gm 15 := by omega
  refine ⟨p, pI gl 17, OG gl, AG gl, KLG gl, pI gl 9, hq, b2, ?_, ?_, by omega, by rw [← s.2.2]; exact n0.1, by rw [← s.2.2]; exact n0.2, fun i i0 i1 => ?_⟩
  · rw [hl, ek]
    show (eA g' 233 (110 + 900 * (eA g0 233 2).toInt + 1)).toInt = _
    rw [← ea]
    exact e1
  · rw [hl, show KLG gl = klG (pE gl 237) (pI gm 15).toNat by unfold KLG; rw [h15]]
    refine MCL_kl _ (fun i i0 i1 => ?_) (fun c c0 c1 => a c c0 (by omega))
    show (eA g' 233 (110 + 900 * (eA g0 233 2).toInt + (2 + i))).toInt = (eA gl 237 i).toInt
    rw [show 110 + 900 * (eA g0 233 2).toInt + (2 + i) = at_ + 2 + i by omega, e2 i i0 (by omega)]
    exact congrArg Int32.toInt (eA_c h37)
  · have z := e3 i i0 (by have := s.2.2; omega)
    have eo : OG gl i = (eA gm 238 i).toInt := by
      rw [← s.1]
      exact if_pos i0
    have ea2 : AG gl i = (eA gm 239 i).toInt := by
      rw [← s.2.1]
      exact if_pos i0
    rw [eo, ea2]
    refine ⟨?_, ?_⟩
    · show (eA g' 233 (110 + 900 * (eA g0 233 2).toInt + (98 + 2 * i))).toInt = _
      rw [show 110 + 900 * (eA g0 233 2).toInt + (98 + 2 * i) = at_ + 98 + 2 * i by omega]
      exact z.1
    · show (eA g' 233 (110 + 900 * (eA g0 233 2).toInt + (98 + 2 * i + 1))).toInt = _
      rw [show 110 + 900 * (eA g0 233 2).toInt + (98 + 2 * i + 1) = at_ + 98 + 2 * i + 1 by omega]
      exact z.2
/-- rows besides the law's own -/
def ROWE (g g' : List en_E) : Prop := ∀ i : Int, 110 ≤ i → i < 5510 → (i < 110 + 900 * (eA g 233 2).toInt ∨ 110 + 900 * (eA g 233 2).toInt + 900 ≤ i) → eA g' 233 i = eA g 233 i
/-! ===== the class's code, told with the machine (ag, cor) ===== -/
def KX (g : List en_E) (i : Int) : Int := (eA g 178 i).toInt
def VX (g : List en_E) (i : Int) : Int := (eA g 179 i).toInt
def lX (g : List en_E) : Int := (gI g 177 0).toInt
theorem KX.c {g g' : List en_E} (h : gA g' 178 = gA g 178) : KX g' = KX g := funext (fun _ => eA_ti h)
theorem VX.c {g g' : List en_E} (h : gA g' 179 = gA g 179) : VX g' = VX g := funext (fun _ => eA_ti h)
theorem lX.e {g : List en_E} (_h : HI g) {v : Int32} (e : gI g 177 0 = v) : lX g = v.toInt := congrArg Int32.toInt e
theorem lX.c {g g' : List en_E} (h : gI g' 177 0 = gI g 177 0) : lX g' = lX g := congrArg Int32.toInt h
/-- how loosely what stands on the pile must bind ahead of a rule's parts; what a rule's code is worth -/
def lev (r : Int) : Int := if r = 0 then 1 else if r = 1 then 2 else if r = 2 then 5 else 6
def tyr (r : Int) : Int := if r ≤ 1 then 1 else 0
/-- how loosely ahead of a rule's single part -/
def lvo (r : Int) : Int := if r = 0 then 2 else if r = 1 then 3 else if r = 2 then 6 else 7
theorem rul {r : Int} (h : 0 ≤ r ∧ r ≤ 3) : (r = 0 ∧ t0f r = 0 ∧ t1f r = 2 ∧ tyr r = 1 ∧ lev r = 1 ∧ lvo r = 2) ∨ (r = 1 ∧ t0f r = 0 ∧ t1f r = 2 ∧ tyr r = 1 ∧ lev r = 2 ∧ lvo r = 3) ∨ (r = 2 ∧ t0f r = 1 ∧ t1f r = 3 ∧ tyr r = 0 ∧ lev r = 5 ∧ lvo r = 6) ∨ (r = 3 ∧ t0f r = 1 ∧ t1f r = 3 ∧ tyr r = 0 ∧ lev r = 6 ∧ lvo r = 7) := by
  rcases (show r = 0 ∨ r = 1 ∨ r = 2 ∨ r = 3 by omega) with e | e | e | e <;> subst e <;> decide
/-- the code of both up to here is as it was -/
def KPX (g g1 : List en_E) : Prop := lX g ≤ lX g1 ∧ ∀ i, 0 ≤ i → i < lX g → KX g1 i = KX g i ∧ VX g1 i = VX g i
/-- what came of the machine: over a pile, from a turn to a turn, a value's worth -/
def MGX (T : Int → Int) (n : Int) (g1 : List en_E) (a b t lv t' y p p' : Int) : Prop := ∀ (c0 : CG) (F : List (Int × Int)) (N : Int) (O A : Int → Int) (Kc : List CLR), bdn (hdo F) < lv → (t = 0 → hdo F ≠ 31 ∧ hdo F ≠ 33) → RUNG T n c0 (t, F, N, O, A, Kc, p) → ∃ N' O' A', N ≤ N' ∧ (∀ i, i < N → O' i = O i ∧ A' i = A i) ∧ COR (KX g1) (VX g1) O' A' y a b N N' ∧ RUNG T n c0 (t', F, N', O', A', Kc, p')
/-- from g to g1, if it is read -/
def GPX (T : Int → Int) (n : Int) (g g1 : List en_E) (t lv t' y : Int) : Prop := rX g1 2 = -1 → 0 ≤ lX g → lX g ≤ rX g 4 → KPX g g1 ∧ lX g1 - lX g ≤ rX g1 4 - rX g 4 ∧ (CNT (KX g1) (lX g) (lX g1) : Int) = rX g1 6 - rX g 6 ∧ MGX T n g1 (lX g) (lX g1) t lv t' y (rX g 4) (rX g1 4)
/-- at the head of a rule's loop -/
def LPG (T : Int → Int) (n : Int) (g g1 : List en_E) (r how jump : Int) : Prop := rX g1 2 = -1 → 0 ≤ lX g → lX g ≤ rX g 4 → KPX g g1 ∧ ((how = -1 ∧ jump = -1 ∧ lX g1 = lX g ∧ rX g1 4 = rX g 4 ∧ rX g1 6 = rX g 6)
  ∨ (2 ≤ r ∧ jump = -1 ∧ 2 * r - 2 ≤ how ∧ how ≤ 2 * r - 1 ∧ lX g1 - lX g + 1 ≤ rX g1 4 - rX g 4 ∧ (CNT (KX g1) (lX g) (lX g1) : Int) = rX g1 6 - rX g 6 ∧ ∀ (c0 : CG) (F : List (Int × Int)) (N : Int) (O A : Int → Int) (Kc : List CLR), bdn (hdo F) < lev r → RUNG T n c0 (1, F, N, O, A, Kc, rX g 4) → ∃ N' O' A', N ≤ N' ∧ (∀ i, i < N → O' i = O i ∧ A' i = A i) ∧ COR (KX g1) (VX g1) O' A' 0 (lX g) (lX g1) N N' ∧ RUNG T n c0 (1, (how + 18, 0) :: F, N', O', A', Kc, rX g1 4))
  ∨ (r ≤ 1 ∧ lX g1 = jump + 1 ∧ lX g ≤ jump ∧ how = 11 - r ∧ KX g1 jump = how ∧ lX g1 - lX g ≤ rX g1 4 - rX g 4 ∧ (CNT (KX g1) (lX g) jump : Int) = rX g1 6 - rX g 6 ∧ ∀ (c0 : CG) (F : List (Int × Int)) (N : Int) (O A : Int → Int) (Kc : List CLR), bdn (hdo F) < lev r → (hdo F ≠ 31 ∧ hdo F ≠ 33) → RUNG T n c0 (0, F, N, O, A, Kc, rX g 4) → ∃ N' O' A', N ≤ N' ∧ (∀ i, i < N → O' i = O i ∧ A' i = A i) ∧ COR (KX g1) (VX g1) O' A' 1 (lX g) jump N N' ∧ O' N' = how + 18 ∧ RUNG T n c0 (0, (how + 18, N') :: F, N' + 1, O', A', Kc, rX g1 4)))
theorem KPX.rf {g : List en_E} : KPX g g := ⟨Int.le_refl _, fun i _ _ => ⟨rfl, rfl⟩⟩
theorem KPX.tr {g g1 g2 : List en_E} (h : KPX g g1) (k : KPX g1 g2) : KPX g g2 := ⟨Int.le_trans h.1 k.1, fun i i0 i1 => by
  have a := h.2 i i0 i1
  have b := k.2 i i0 (by have := h.1; omega)
  exact ⟨b.1.trans a.1, b.2.trans a.2⟩⟩
theorem CNT.c {K K' : Int → Int} {a b : Int} (h : ∀ i, a ≤ i → i < b → K i = K' i) : CNT K a b = CNT K' a b := by
  unfold CNT
  have k : ∀ m : Nat, a + (m : Int) ≤ b ∨ m = 0 → cntN K a m = cntN K' a m := by
    intro m
    induction m with
    | zero => intro _; rfl
    | succ m ih =>
      intro hm
      show cntN K a m + (if K (a + (m : Int)) ≤ 1 then 1 else 0) = cntN K' a m + (if K' (a + (m : Int)) ≤ 1 then 1 else 0)
      rw [ih (by omega), h (a + (m : Int)) (by omega) (by omega)]
  by_cases c : a ≤ b
  · exact k _ (by omega)
  · rw [show (b - a).toNat = 0 by omega]; rfl
theorem CNT.z {K : Int → Int} {a b : Int} (h : b = a) : CNT K a b = 0 := by
  unfold CNT
  rw [show (b - a).toNat = 0 by omega]
  rfl
section GPXS
variable {T : Int → Int} {n t lv lv' t' y y' r r' how jump c : Int} {g g1 g2 g3 g4 : List en_E}
theorem GPX.le (h : GPX T n g g1 t lv t' y) (l : lv' ≤ lv) : GPX T n g g1 t lv' t' y := fun e a b => by
  obtain ⟨h1, h2, h3, h4⟩ := h e a b
  exact ⟨h1, h2, h3, fun c0 F N O A Kc hb ht => h4 c0 F N O A Kc (by omega) ht⟩
/-- the same code, other places in the heap -/
theorem GPX.eq (h : GPX T n g g1 t lv t' y) (hK : gA g2 178 = gA g1 178) (hV : gA g2 179 = gA g1 179) (hl : gI g2 177 0 = gI g1 177 0) (e2 : rX g2 2 = rX g1 2) (e4 : rX g2 4 = rX g1 4) (e6 : rX g2 6 = rX g1 6) : GPX T n g g2 t lv t' y := fun e a b => by
  have z := h (e2.symm.trans e) a b
  unfold KPX MGX at *
  rw [KX.c hK, VX.c hV, lX.c hl, e4, e6]
  exact z
theorem GPX.fr (h : GPX T n g1 g2 t lv t' y) (hK : gA g1 178 = gA g 178) (hV : gA g1 179 = gA g 179) (hl : gI g1 177 0 = gI g 177 0) (e4 : rX g1 4 = rX g 4) (e6 : rX g1 6 = rX g 6) : GPX T n g g2 t lv t' y := fun e a b => by
  have z := h e (by rw [lX.c hl]; exact a) (by rw [lX.c hl, e4]; exact b)
  unfold KPX at *
  rw [KX.c hK, VX.c hV, lX.c hl, e4, e6] at z
  exact z
/-- the first part -/
theorem LPG.opA (h : LPG T n g g1 r how jump) (o : GPX T n g1 g2 (t0f r) (lvo r) (t1f r) (tyr r)) (hr : 0 ≤ r ∧ r ≤ 3) (f : rX g2 2 = -1 → rX g1 2 = -1) (h1 : how = -1) (h2 : jump = -1) : GPX T n g g2 (t0f r) (lev r) (t1f r) (tyr r) := fun hz a b => by
  have ru := rul hr
  obtain ⟨k, z⟩ := h (f hz) a b
  rcases z with ⟨_, _, z1, z2, z3⟩ | ⟨_, _, z1, _⟩ | ⟨_, z1, z2, _⟩
  · have w := o.le (show lev r ≤ lvo r from by omega) hz (by omega) (by omega)
    rw [z1, z2, z3] at w
    exact ⟨k.tr w.1, w.2.1, w.2.2.1, w.2.2.2⟩
  · omega
  · omega
theorem GPX.k (h : GPX T n g g1 t lv t' y) {s lw s' x : Int} (e1 : t = s) (e2 : lv = lw) (e3 : t' = s') (e4 : y = x) : GPX T n g g1 s lw s' x := by
  subst e1 e2 e3 e4
  exact h
/-- a further part, and what joins it -/
theorem LPG.opB (h : LPG T n g g1 r how jump) (o0 : GPX T n g1 g2 (t0f r) (lvo r) (t1f r) (tyr r)) (hr0 : 0 ≤ r ∧ r ≤ 3) (f : rX g2 2 = -1 → rX g1 2 = -1) (h1 : how ≠ -1) (h2 : jump = -1) {q : Int} (k1 : TOK T n (rX g2 4) c q) (h4 : rX g2 4 ≤ 400) (hj : rX g2 2 = -1 → r = 2 → ¬ (22 ≤ c ∧ c ≤ 23)) (el3 : rX g3 2 = -1 → lX g2 < 400 → lX g3 = lX g2 + 1 ∧ KX g3 (lX g2) = how ∧ (∀ i, 0 ≤ i → i < lX g2 → KX g3 i = KX g2 i ∧ VX g3 i = VX g2 i)) (e2 : rX g3 2 = rX g2 2) (e4 : rX g3 4 = rX g2 4) (e6 : rX g3 6 = rX g2 6) : GPX T n g g3 (t0f r) (lev r) (t1f r) (tyr r) := fun hz a b => by
  have ru := rul hr0
  have hz2 : rX g2 2 = -1 := e2.symm.trans hz
  obtain ⟨k, z⟩ := h (f hz2) a b
  rcases z with ⟨z1, _⟩ | ⟨hr, _, z1, z2, z3, z4, z5⟩ | ⟨_, z0, z1, _⟩
  · omega
  · have k0 := k.1
    have o : GPX T n g1 g2 1 (lvo r) 3 0 := o0.k (by omega) rfl (by omega) (by omega)
    rw [show t0f r = 1 by omega, show t1f r = 3 by omega, show tyr r = 0 by omega]
    obtain ⟨w1, w2, w3, w4⟩ := o hz2 (by omega) (by omega)
    have w0 := w1.1
    obtain ⟨u1, u2, u3⟩ := el3 hz (by omega)
    have kk : KPX g2 g3 := ⟨by omega, u3⟩
    refine ⟨(k.tr w1).tr kk, by rw [e4]; omega, ?_, ?_⟩
    · rw [e6, u1, CNT.tr (KX g3) (show lX g ≤ lX g1 by omega) (show lX g1 ≤ lX g2 + 1 by omega), CNT.tr (KX g3) (show lX g1 ≤ lX g2 by omega) (show lX g2 ≤ lX g2 + 1 by omega), CNT.one (KX g3) rfl, u2, if_neg (show ¬ how ≤ 1 from by omega), CNT.c (K := KX g3) (K' := KX g2) (a := lX g1) (fun i i0 i1 => (u3 i (by omega) i1).1), CNT.c (K := KX g3) (K' := KX g1) (a := lX g) (fun i i0 i1 => (u3 i (by omega) (by omega)).1.trans (w1.2 i (by omega) i1).1)]
      omega
    · intro c0 F N O A Kc hb ht hr0
      obtain ⟨N1, O1, A1, m1, m2, m3, m4⟩ := z5 c0 F N O A Kc hb hr0
      have hh : hdo ((how + 18, (0 : Int)) :: F) = how + 18 := rfl
      have hbd := bdn_rg (how + 18)
      obtain ⟨N2, O2, A2, s1, s2, s3, s4⟩ := w4 c0 ((how + 18, 0) :: F) N1 O1 A1 Kc (by rw [hh]; omega) (fun e => by omega) m4
      have l3 := lea_3 c
      have st := G.pop3 (F := (how + 18, 0) :: F) (n := N2) (O := O2) (A := A2) (K := Kc) k1 (by rw [hh]; rcases Decidable.em (r = 2) with c2 | c2; (have := hj hz2 c2; omega); omega)
      rw [popg_op (show how + 18 ≠ 28 ∧ how + 18 ≠ 29 from by omega)] at st
      refine ⟨N2 + 1, updG O2 N2 (how + 18), updG A2 N2 0, by omega, fun i i0 => ?_, ?_, by rw [e4]; exact s4.tr (RUNG.st st)⟩
      · rw [updG_n (show i ≠ N2 from by omega), updG_n (show i ≠ N2 from by omega)]
        exact ⟨(s2 i (by omega)).1.trans (m2 i i0).1, (s2 i (by omega)).2.trans (m2 i i0).2⟩
      · rw [u1]
        have x1 : COR (KX g3) (VX g3) (updG O2 N2 (how + 18)) (updG A2 N2 0) 0 (lX g) (lX g1) N N1 := m3.c (fun i i0 i1 => by
          have p1 := w1.2 i (by omega) i1
          have p2 := u3 i (by omega) (by omega)
          exact ⟨(p2.1.trans p1.1).symm, (p2.2.trans p1.2).symm⟩) (fun i i0 i1 => by
          rw [updG_n (show i ≠ N2 from by omega), updG_n (show i ≠ N2 from by omega)]
          have p1 := s2 i i1
          exact ⟨p1.1.symm, p1.2.symm⟩)
        have x2 : COR (KX g3) (VX g3) (updG O2 N2 (how + 18)) (updG A2 N2 0) 0 (lX g1) (lX g2) N1 N2 := s3.c (fun i i0 i1 => by
          have p2 := u3 i (by omega) (by omega)
          exact ⟨p2.1.symm, p2.2.symm⟩) (fun i i0 i1 => by
          rw [updG_n (show i ≠ N2 from by omega), updG_n (show i ≠ N2 from by omega)]
          exact ⟨rfl, rfl⟩)
        exact x1.bin x2 rfl rfl (by rw [u2]; exact Or.inl ⟨by omega, by omega, rfl, rfl⟩) (by rw [updG_q rfl, u2])
  · omega
/-- a further part, and where to jump -/
theorem LPG.opC (h : LPG T n g g1 r how jump) (o0 : GPX T n g1 g2 (t0f r) (lvo r) (t1f r) (tyr r)) (hr0 : 0 ≤ r ∧ r ≤ 3) (f : rX g2 2 = -1 → rX g1 2 = -1) (h2 : jump ≠ -1) {q : Int} (k1 : TOK T n (rX g2 4) c q) (hj : rX g2 2 = -1 → r = 0 → c ≠ 28) (hj0 : 0 ≤ jump) (el3 : rX g3 2 = -1 → jump < lX g2 → lX g3 = lX g2 ∧ VX g3 jump = lX g2 ∧ (∀ i, 0 ≤ i → KX g3 i = KX g2 i) ∧ (∀ i, 0 ≤ i → i ≠ jump → VX g3 i = VX g2 i)) (e2 : rX g3 2 = rX g2 2) (e4 : rX g3 4 = rX g2 4) (e6 : rX g3 6 = rX g2 6) : GPX T n g g3 (t0f r) (lev r) (t1f r) (tyr r) := fun hz a b => by
  have ru := rul hr0
  have hz2 : rX g2 2 = -1 := e2.symm.trans hz
  obtain ⟨k, z⟩ := h (f hz2) a b
  rcases z with ⟨_, z1, _⟩ | ⟨_, z1, _⟩ | ⟨hr, z0, z1, z2, z3, z4, z5, z6⟩
  · omega
  · omega
  · have k0 := k.1
    have o : GPX T n g1 g2 0 (lvo r) 2 1 := o0.k (by omega) rfl (by omega) (by omega)
    rw [show t0f r = 0 by omega, show t1f r = 2 by omega, show tyr r = 1 by omega]
    obtain ⟨w1, w2, w3, w4⟩ := o hz2 (by omega) (by omega)
    have w0 := w1.1
    obtain ⟨u1, u2, u3, u4⟩ := el3 hz (by omega)
    refine ⟨⟨by omega, fun i i0 i1 => ?_⟩, by rw [e4, u1]; omega, ?_, ?_⟩
    · have p0 := k.2 i i0 i1
      have p1 := w1.2 i i0 (by omega)
      exact ⟨(u3 i i0).trans (p1.1.trans p0.1), (u4 i i0 (by omega)).trans (p1.2.trans p0.2)⟩
    · rw [e6, u1, CNT.c (K := KX g3) (K' := KX g2) (a := lX g) (fun i i0 i1 => u3 i (by omega)), CNT.tr (KX g2) (show lX g ≤ jump by omega) (show jump ≤ lX g2 by omega), CNT.tr (KX g2) (show jump ≤ jump + 1 by omega) (show jump + 1 ≤ lX g2 by omega), CNT.one (KX g2) rfl, (w1.2 jump hj0 (by omega)).1, z3, if_neg (show ¬ how ≤ 1 from by omega), ← z0, CNT.c (K := KX g2) (K' := KX g1) (a := lX g) (b := jump) (fun i i0 i1 => (w1.2 i (by omega) (by omega)).1)]
      omega
    · intro c0 F N O A Kc hb ht hr0
      obtain ⟨N1, O1, A1, m1, m2, m3, mo, m4⟩ := z6 c0 F N O A Kc hb (ht rfl) hr0
      have hh : hdo ((how + 18, N1) :: F) = how + 18 := rfl
      have hbd := bdn_rg (how + 18)
      obtain ⟨N2, O2, A2, s1, s2, s3, s4⟩ := w4 c0 ((how + 18, N1) :: F) (N1 + 1) O1 A1 Kc (by rw [hh]; omega) (fun _ => by rw [hh]; omega) m4
      have l2 := lea_2 c
      have st := G.pop2 (F := (how + 18, N1) :: F) (n := N2) (O := O2) (A := A2) (K := Kc) k1 (by rw [hh]; rcases Decidable.em (r = 0) with c2 | c2; (have := hj hz2 c2; omega); omega)
      rw [popg_jmp (show how + 18 = 28 ∨ how + 18 = 29 from by omega)] at st
      refine ⟨N2, O2, updG A2 N1 N2, by omega, fun i i0 => ?_, ?_, by rw [e4]; exact s4.tr (RUNG.st st)⟩
      · rw [updG_n (show i ≠ N1 from by omega)]
        exact ⟨(s2 i (by omega)).1.trans (m2 i i0).1, (s2 i (by omega)).2.trans (m2 i i0).2⟩
      · rw [u1]
        have x1 : COR (KX g3) (VX g3) O2 (updG A2 N1 N2) 1 (lX g) jump N N1 := m3.c (fun i i0 i1 => by
          have p1 := w1.2 i (by omega) (by omega)
          exact ⟨((u3 i (by omega)).trans p1.1).symm, ((u4 i (by omega) (by omega)).trans p1.2).symm⟩) (fun i i0 i1 => by
          rw [updG_n (show i ≠ N1 from by omega)]
          have p1 := s2 i (by omega)
          exact ⟨p1.1.symm, p1.2.symm⟩)
        have x2 : COR (KX g3) (VX g3) O2 (updG A2 N1 N2) 1 (jump + 1) (lX g2) (N1 + 1) N2 := by
          rw [← z0]
          exact s3.c (fun i i0 i1 => ⟨(u3 i (by omega)).symm, (u4 i (by omega) (by omega)).symm⟩) (fun i i0 i1 => by
            rw [updG_n (show i ≠ N1 from by omega)]
            exact ⟨rfl, rfl⟩)
        have hk : KX g3 jump = how := (u3 jump hj0).trans ((w1.2 jump hj0 (by omega)).1.trans z3)
        have ho : O2 N1 = how + 18 := (s2 N1 (by omega)).1.trans mo
        exact x1.jmp x2 (by rw [hk, ho]; omega) u2 (updG_q rfl)
/-- what joins comes: a SUM's, a TERM's -/
theorem GPX.joinB (h0 : GPX T n g g1 (t0f r) (lev r) (t1f r) (tyr r)) (hr : 2 ≤ r ∧ r ≤ 3) (k1 : TOK T n (rX g1 4) c (rX g2 4)) (hc : 2 * r + 16 ≤ c ∧ c ≤ 2 * r + 17) (eh : how = c - 18) (hp : rX g1 4 + 1 ≤ rX g2 4) (e2 : rX g2 2 = rX g1 2) (e6 : rX g2 6 = rX g1 6) (hK : gA g2 178 = gA g1 178) (hV : gA g2 179 = gA g1 179) (hl : gI g2 177 0 = gI g1 177 0) (ej : jump = -1) : LPG T n g g2 r how jump := fun hz a b => by
  have ru := rul (r := r) (by omega)
  have h : GPX T n g g1 1 (lev r) 3 0 := h0.k (by omega) rfl (by omega) (by omega)
  obtain ⟨h1, h2, h3, h4⟩ := h (e2.symm.trans hz) a b
  have q1 := KX.c hK
  have q2 := VX.c hV
  have q3 := lX.c hl
  refine ⟨⟨by rw [q3]; exact h1.1, by rw [q1, q2]; exact h1.2⟩, Or.inr (Or.inl ⟨hr.1, ej, by omega, by omega, by rw [q3]; omega, by rw [q1, q3, e6]; exact h3, ?_⟩)⟩
  rw [q1, q2, q3]
  intro c0 F N O A Kc hb hr0
  obtain ⟨N', O', A', m1, m2, m3, m4⟩ := h4 c0 F N O A Kc hb (fun e => by omega) hr0
  have l3 := lea_3 c
  have hlv : lev r ≤ lea 3 c := by
    unfold lev
    rw [if_neg (show ¬ r = 0 from by omega), if_neg (show ¬ r = 1 from by omega)]
    split <;> omega
  refine ⟨N', O', A', m1, m2, m3, ?_⟩
  rw [show how + 18 = c from by omega]
  exact m4.tr (RUNG.st (G.join k1 (by omega) (by omega)))
/-- a TEST's: with a jump -/
theorem GPX.joinC (h0 : GPX T n g g1 (t0f r) (lev r) (t1f r) (tyr r)) (hr : 0 ≤ r ∧ r ≤ 1) (k1 : TOK T n (rX g1 4) c (rX g2 4)) (hc : c = 29 - r) (eh : how = 11 - r) (hp : rX g1 4 + 1 ≤ rX g2 4) (e2 : rX g2 2 = rX g1 2) (e6 : rX g2 6 = rX g1 6) (hK : gA g2 178 = gA g1 178) (hV : gA g2 179 = gA g1 179) (hl : gI g2 177 0 = gI g1 177 0) (el3 : rX g3 2 = -1 → lX g2 < rX g2 4 → lX g3 = lX g2 + 1 ∧ KX g3 (lX g2) = how ∧ jump = lX g2 ∧ (∀ i, 0 ≤ i → i < lX g2 → KX g3 i = KX g2 i ∧ VX g3 i = VX g2 i)) (f2 : rX g3 2 = rX g2 2) (f4 : rX g3 4 = rX g2 4) (f6 : rX g3 6 = rX g2 6) : LPG T n g g3 r how jump := fun hz a b => by
  have ru := rul (r := r) (by omega)
  have h : GPX T n g g1 0 (lev r) 2 1 := h0.k (by omega) rfl (by omega) (by omega)
  obtain ⟨h1, h2, h3, h4⟩ := h (e2.symm.trans (f2.symm.trans hz)) a b
  have q1 := KX.c hK
  have q2 := VX.c hV
  have q3 := lX.c hl
  have k0 := h1.1
  obtain ⟨u1, u2, u3, u4⟩ := el3 hz (by omega)
  rw [q1, q2, q3] at u4
  rw [q3] at u1 u2 u3
  refine ⟨⟨by omega, fun i i0 i1 => ?_⟩, Or.inr (Or.inr ⟨hr.2, by omega, by omega, eh, by rw [u3]; exact u2, by omega, ?_, ?_⟩)⟩
  · have p1 := u4 i i0 (by omega)
    have p0 := h1.2 i i0 i1
    exact ⟨p1.1.trans p0.1, p1.2.trans p0.2⟩
  · rw [f6, e6, u3, CNT.c (K := KX g3) (K' := KX g1) (fun i i0 i1 => (u4 i (by omega) i1).1)]
    exact h3
  · intro c0 F N O A Kc hb ht hr0
    obtain ⟨N', O', A', m1, m2, m3, m4⟩ := h4 c0 F N O A Kc hb (fun _ => ht) hr0
    have l2 := lea_2 c
    have hlv : lev r ≤ lea 2 c := by
      unfold lev
      rcases (show r = 0 ∨ r = 1 by omega) with x | x
      · rw [if_pos x]; omega
      · rw [if_neg (show ¬ r = 0 from by omega), if_pos x]; omega
    have st := RUNG.st (G.andor (F := F) (n := N') (O := O') (A := A') (K := Kc) k1 (by omega) (by omega))
    refine ⟨N', updG O' N' c, updG A' N' 0, m1, fun i i0 => ?_, ?_, by rw [updG_q rfl]; omega, ?_⟩
    · rw [updG_n (show i ≠ N' from by omega), updG_n (show i ≠ N' from by omega)]
      exact m2 i i0
    · rw [u3]
      exact m3.c (fun i i0 i1 => by
        have p1 := u4 i (by omega) i1
        exact ⟨p1.1.symm, p1.2.symm⟩) (fun i i0 i1 => by
        rw [updG_n (show i ≠ N' from by omega), updG_n (show i ≠ N' from by omega)]
        exact ⟨rfl, rfl⟩)
    · rw [f4, show how + 18 = c from by omega]
      exact m4.tr st
end GPXS
/-- so many NOTs ahead of a pile -/
def ntF : Nat → List (Int × Int) → List (Int × Int)
  | 0, F => F
  | k + 1, F => (27, 0) :: ntF k F
theorem ntF.hd (k : Nat) (F : List (Int × Int)) : hdo (ntF k F) = 27 ∨ (k = 0 ∧ ntF k F = F) := by
  cases k with
  | zero => exact Or.inr ⟨rfl, rfl⟩
  | succ k => exact Or.inl rfl
/-- NOTs settled -/
theorem NTS.run {T : Int → Int} {n c p q : Int} (k1 : TOK T n p c q) {c0 : CG} {F : List (Int × Int)} {Kc : List CLR} : ∀ (k : Nat) {N : Int} {O A : Int → Int}, RUNG T n c0 (2, ntF k F, N, O, A, Kc, p) → ∃ O' A', RUNG T n c0 (2, F, N + (k : Int), O', A', Kc, p) ∧ (∀ i, i < N → O' i = O i ∧ A' i = A i) ∧ ∀ i, N ≤ i → i < N + (k : Int) → O' i = 27
  | 0, N, O, A, h => ⟨O, A, by rw [show N + ((0 : Nat) : Int) = N by omega]; exact h, fun i _ => ⟨rfl, rfl⟩, fun i i0 i1 => absurd i1 (by omega)⟩
  | k + 1, N, O, A, h => by
    have l2 := lea_2 c
    have hb := bdn_rg 27
    have st := G.pop2 (F := (27, 0) :: ntF k F) (n := N) (O := O) (A := A) (K := Kc) k1 (by rw [hdo_c]; show lea 2 c ≤ bdn 27; omega)
    rw [popg_op (show (27 : Int) ≠ 28 ∧ (27 : Int) ≠ 29 from by omega)] at st
    obtain ⟨O', A', r1, r2, r3⟩ := NTS.run k1 k (h.tr (RUNG.st st))
    refine ⟨O', A', by rw [show N + ((k + 1 : Nat) : Int) = N + 1 + (k : Int) by omega]; exact r1, fun i i0 => ?_, fun i i0 i1 => ?_⟩
    · have z := r2 i (by omega)
      rw [updG_n (show i ≠ N from by omega), updG_n (show i ≠ N from by omega)] at z
      exact z
    · by_cases e : i = N
      · rw [e, (r2 N (by omega)).1, updG_q rfl]
      · exact r3 i (by omega) (by omega)
theorem NTS.even {K V O A : Int → Int} {a b a' : Int} : ∀ (m : Nat) {b' : Int}, COR K V O A 1 a b a' b' → (∀ i, b' ≤ i → i < b' + 2 * (m : Int) → O i = 27) → COR K V O A 1 a b a' (b' + 2 * (m : Int))
  | 0, b', h, _ => by rw [show b' + 2 * ((0 : Nat) : Int) = b' by omega]; exact h
  | m + 1, b', h, z => by
    have x := NTS.even m h (fun i i0 i1 => z i i0 (by omega))
    exact x.nn (by omega) (z _ (by omega) (by omega)) (z _ (by omega) (by omega))
/-- a plain one's NOTs: on the class's side one alone, or none -/
theorem NTS.cor {K V O A : Int → Int} {a b b1 a' b' : Int} (k : Nat) (tb : Int) (h : COR K V O A 1 a b a' b') (z : ∀ i, b' ≤ i → i < b' + (k : Int) → O i = 27) (e : (k : Int) % 2 = tb) (h0 : tb = 0 → b1 = b) (h1 : tb ≠ 0 → b1 = b + 1 ∧ K b = 9) : COR K V O A 1 a b1 a' (b' + (k : Int)) := by
  by_cases t : tb = 0
  · rw [h0 t]
    have x := NTS.even (k / 2) h (fun i i0 i1 => z i i0 (by omega))
    rw [show b' + 2 * ((k / 2 : Nat) : Int) = b' + (k : Int) by omega] at x
    exact x
  · obtain ⟨e1, e2⟩ := h1 t
    rw [e1]
    have y := h.not rfl rfl e2 (z b' (by omega) (by omega))
    have x := NTS.even (k / 2) y (fun i i0 i1 => z i (by omega) (by omega))
    rw [show b' + 1 + 2 * ((k / 2 : Nat) : Int) = b' + (k : Int) by omega] at x
    exact x
/-- NOTs read -/
def NLG (T : Int → Int) (n : Int) (g g1 : List en_E) (tb : Int) : Prop := rX g1 2 = -1 → lX g1 = lX g ∧ KX g1 = KX g ∧ VX g1 = VX g ∧ rX g1 6 = rX g 6 ∧ rX g 4 + tb ≤ rX g1 4 ∧ (tb = 0 ∨ tb = 1) ∧ ∃ k : Nat, (k : Int) % 2 = tb ∧ ∀ (c0 : CG) (F : List (Int × Int)) (N : Int) (O A : Int → Int) (Kc : List CLR), RUNG T n c0 (0, F, N, O, A, Kc, rX g 4) → RUNG T n c0 (0, ntF k F, N, O, A, Kc, rX g1 4)
section PLGS
variable {T : Int → Int} {n tb tb' c c2 q how : Int} {g g1 g2 g3 g4 g5 g6 : List en_E}
theorem NLG.rf (e : tb = 0) : NLG T n g g tb := fun _ => ⟨rfl, rfl, rfl, rfl, by omega, Or.inl e, 0, by omega, fun c0 F N O A Kc h => h⟩
theorem NLG.next (h : NLG T n g g1 tb) (k1 : TOK T n (rX g1 4) c (rX g2 4)) (hc : c = 1) (hp : rX g1 4 + 1 ≤ rX g2 4) (et : tb' = 1 - tb) (e2 : rX g2 2 = rX g1 2) (e6 : rX g2 6 = rX g1 6) (hK : gA g2 178 = gA g1 178) (hV : gA g2 179 = gA g1 179) (hl : gI g2 177 0 = gI g1 177 0) : NLG T n g g2 tb' := fun hz => by
  obtain ⟨h1, h2, h3, h4, h5, h6, k, h7, h8⟩ := h (e2.symm.trans hz)
  refine ⟨(lX.c hl).trans h1, (KX.c hK).trans h2, (VX.c hV).trans h3, e6.trans h4, by omega, by omega, k + 1, by omega, fun c0 F N O A Kc hr => ?_⟩
  exact (h8 c0 F N O A Kc hr).tr (RUNG.st (G.not k1 hc))
end PLGS
/-- the same code -/
def SMX (g g' : List en_E) : Prop := KX g' = KX g ∧ VX g' = VX g ∧ lX g' = lX g ∧ rX g' 6 = rX g 6
theorem SMX.mk {g g' : List en_E} (hK : gA g' 178 = gA g 178) (hV : gA g' 179 = gA g 179) (hl : gI g' 177 0 = gI g 177 0) (e6 : rX g' 6 = rX g 6) : SMX g g' := ⟨KX.c hK, VX.c hV, lX.c hl, e6⟩
/-- an instruction more -/
def ADX (g g' : List en_E) (k : Int) : Prop := lX g' = lX g + 1 ∧ KX g' (lX g) = k ∧ (∀ i, 0 ≤ i → i < lX g → KX g' i = KX g i ∧ VX g' i = VX g i) ∧ rX g' 6 = rX g 6
/-- a NOT more, or none -/
def NTX (g g' : List en_E) (tb : Int) : Prop := (tb = 0 ∧ SMX g g') ∨ (tb = 1 ∧ ADX g g' 9)
theorem KPX.of {g g' : List en_E} {tb : Int} (h : NTX g g' tb) : KPX g g' := by
  rcases h with ⟨_, h1, h2, h3, _⟩ | ⟨_, h1, _, h3, _⟩
  · exact ⟨by omega, fun i _ _ => ⟨by rw [h1], by rw [h2]⟩⟩
  · exact ⟨by omega, h3⟩
section PLGT
variable {T : Int → Int} {n tb c c2 c3 q how : Int} {g g1 g2 g3 g4 g5 g6 : List en_E}
/-- behind the plain one itself: its NOTs -/
theorem PLG.end_ {k : Nat} (hk : (k : Int) % 2 = tb) (h : NTX g4 g5 tb) {a p : Int} (h0 : 0 ≤ a) (hl : a ≤ lX g4) (k3 : TOK T n p c3 q) {c0 : CG} {F : List (Int × Int)} {N : Int} {O A : Int → Int} {Kc : List CLR} (m : ∃ N' O' A', N ≤ N' ∧ (∀ i, i < N → O' i = O i ∧ A' i = A i) ∧ COR (KX g4) (VX g4) O' A' 1 a (lX g4) N N' ∧ RUNG T n c0 (2, ntF k F, N', O', A', Kc, p)) : ∃ N' O' A', N ≤ N' ∧ (∀ i, i < N → O' i = O i ∧ A' i = A i) ∧ COR (KX g5) (VX g5) O' A' 1 a (lX g5) N N' ∧ RUNG T n c0 (2, F, N', O', A', Kc, p) := by
  obtain ⟨N1, O1, A1, m1, m2, m3, m4⟩ := m
  obtain ⟨O2, A2, r1, r2, r3⟩ := NTS.run k3 k m4
  have kp := KPX.of h
  have x : COR (KX g5) (VX g5) O2 A2 1 a (lX g4) N N1 := m3.c (fun i i0 i1 => by
    have p1 := kp.2 i (by omega) i1
    exact ⟨p1.1.symm, p1.2.symm⟩) (fun i i0 i1 => by
    have p1 := r2 i i1
    exact ⟨p1.1.symm, p1.2.symm⟩)
  refine ⟨N1 + (k : Int), O2, A2, by omega, fun i i0 => ?_, NTS.cor k tb x r3 hk (fun e => ?_) (fun e => ?_), r1⟩
  · have p1 := r2 i (by omega)
    have p0 := m2 i i0
    exact ⟨p1.1.trans p0.1, p1.2.trans p0.2⟩
  · rcases h with ⟨_, _, _, h3, _⟩ | ⟨h1, _⟩
    · exact h3
    · omega
  · rcases h with ⟨h1, _⟩ | ⟨_, h2, h3, _⟩
    · exact absurd h1 e
    · exact ⟨h2, h3⟩
theorem CNT.nt {a : Int} (h : NTX g4 g5 tb) (h0 : 0 ≤ a) (hl : a ≤ lX g4) : CNT (KX g5) a (lX g5) = CNT (KX g4) a (lX g4) := by
  have kp := KPX.of h
  rcases h with ⟨_, h1, _, h3, _⟩ | ⟨_, h2, h3, _⟩
  · rw [h1, h3]
  · rw [h2, CNT.tr (KX g5) hl (show lX g4 ≤ lX g4 + 1 by omega), CNT.one (KX g5) rfl, h3, if_neg (show ¬ (9 : Int) ≤ 1 from by omega), CNT.c (K := KX g5) (K' := KX g4) (fun i i0 i1 => (kp.2 i (by omega) i1).1), Nat.add_zero]
/-- a test in brackets -/
theorem PLG.rnd (l : NLG T n g g1 tb) (k1 : TOK T n (rX g1 4) c (rX g2 4)) (hc : c = 2) (p1 : rX g1 4 + 1 ≤ rX g2 4) (s1 : SMX g1 g2) (o : GPX T n g2 g3 0 1 2 1) (k2 : TOK T n (rX g3 4) c2 (rX g4 4)) (hc2 : c2 = 9) (p2 : rX g3 4 + 1 ≤ rX g4 4) (s2 : SMX g3 g4) (k3 : TOK T n (rX g4 4) c3 q) (nt : rX g5 2 = -1 → (tb = 1 → lX g4 < rX g4 4) → NTX g4 g5 tb) (e4 : rX g5 4 = rX g4 4) (f1 : rX g5 2 = -1 → rX g1 2 = -1) (f3 : rX g5 2 = -1 → rX g3 2 = -1) : GPX T n g g5 0 3 2 1 := fun hz a b => by
  obtain ⟨l1, l2, l3, l4, l5, l6, k, l7, l8⟩ := l (f1 hz)
  obtain ⟨s11, s12, s13, s14⟩ := s1
  obtain ⟨s21, s22, s23, s24⟩ := s2
  obtain ⟨o1, o2, o3, o4⟩ := o (f3 hz) (by omega) (by omega)
  have o0 := o1.1
  have h := nt hz (fun _ => by omega)
  have kp := KPX.of h
  have kg : lX g2 = lX g := by omega
  rw [kg] at o2 o3 o4
  have e6 : rX g5 6 = rX g4 6 := by rcases h with ⟨_, _, _, _, x⟩ | ⟨_, _, _, _, x⟩ <;> exact x
  have kl : lX g5 ≤ lX g4 + tb := by rcases h with ⟨x, _, _, y, _⟩ | ⟨x, y, _⟩ <;> omega
  refine ⟨⟨by have := kp.1; omega, fun i i0 i1 => ?_⟩, by rw [e4]; omega, ?_, ?_⟩
  · have y := kp.2 i i0 (by omega)
    have x := o1.2 i i0 (by omega)
    rw [s21, s22, x.1, x.2, s11, s12, l2, l3] at y
    exact y
  · rw [CNT.nt h a (by omega), s21, s23, e6]
    omega
  · rw [e4]
    intro c0 F N O A Kc hb ht hr0
    refine PLG.end_ l7 h a (by omega) k3 ?_
    have r1 := (l8 c0 F N O A Kc hr0).tr (RUNG.st (G.rnd (F := ntF k F) (n := N) (O := O) (A := A) (K := Kc) k1 hc))
    have b30 : hdo ((30, (0 : Int)) :: ntF k F) = 30 := rfl
    have b0 := bdn_rg 30
    obtain ⟨N1, O1, A1, m1, m2, m3, m4⟩ := o4 c0 ((30, 0) :: ntF k F) N O A Kc (by rw [b30]; omega) (fun _ => by rw [b30]; omega) r1
    refine ⟨N1, O1, A1, m1, m2, ?_, m4.tr (RUNG.st (G.rndE k2 hc2))⟩
    rw [s21, s22, s23]
    exact m3
/-- a comparison -/
theorem PLG.cmp (l : NLG T n g g1 tb) {q1 c1 : Int} (k0 : TOK T n (rX g1 4) c1 q1) (hc1 : c1 ≠ 1 ∧ c1 ≠ 2) (o : GPX T n g1 g2 1 5 3 0) (k1 : TOK T n (rX g2 4) c (rX g3 4)) (hc : 24 ≤ c ∧ c ≤ 26) (p1 : rX g2 4 + 1 ≤ rX g3 4) (s1 : SMX g2 g3) (o2 : GPX T n g3 g4 1 5 3 0) (k3 : TOK T n (rX g4 4) c3 q) (hj : rX g4 2 = -1 → ¬ (20 ≤ c3 ∧ c3 ≤ 23)) (eh : how = c - 18) (ad : rX g5 2 = -1 → lX g4 < rX g4 4 → ADX g4 g5 how) (d4 : rX g5 4 = rX g4 4) (nt : rX g6 2 = -1 → (tb = 1 → lX g5 < rX g5 4) → NTX g5 g6 tb) (e4 : rX g6 4 = rX g5 4) (f1 : rX g6 2 = -1 → rX g1 2 = -1) (f2 : rX g6 2 = -1 → rX g2 2 = -1) (f4 : rX g6 2 = -1 → rX g4 2 = -1) (f5 : rX g6 2 = -1 → rX g5 2 = -1) : GPX T n g g6 0 3 2 1 := fun hz a b => by
  obtain ⟨l1, l2, l3, l4, l5, l6, k, l7, l8⟩ := l (f1 hz)
  obtain ⟨s11, s12, s13, s14⟩ := s1
  obtain ⟨o11, o12, o13, o14⟩ := o (f2 hz) (by omega) (by omega)
  have o10 := o11.1
  obtain ⟨o21, o22, o23, o24⟩ := o2 (f4 hz) (by omega) (by omega)
  have o20 := o21.1
  obtain ⟨d1, d2, d3, d6⟩ := ad (f5 hz) (by omega)
  have h := nt hz (fun _ => by omega)
  have kp := KPX.of h
  have e6 : rX g6 6 = rX g5 6 := by rcases h with ⟨_, _, _, _, x⟩ | ⟨_, _, _, _, x⟩ <;> exact x
  have kl : lX g6 ≤ lX g5 + tb := by rcases h with ⟨x, _, _, y, _⟩ | ⟨x, y, _⟩ <;> omega
  have cd : ∀ i, 0 ≤ i → i < lX g2 → KX g5 i = KX g2 i ∧ VX g5 i = VX g2 i := fun i i0 i1 => by
    have x := d3 i i0 (by omega)
    have y := o21.2 i i0 (by omega)
    rw [s11, s12] at y
    exact ⟨x.1.trans y.1, x.2.trans y.2⟩
  refine ⟨⟨by have := kp.1; omega, fun i i0 i1 => ?_⟩, by rw [e4, d4]; omega, ?_, ?_⟩
  · have y := kp.2 i i0 (by omega)
    have x := cd i i0 (by omega)
    have w := o11.2 i i0 (by omega)
    rw [l2, l3] at w
    exact ⟨y.1.trans (x.1.trans w.1), y.2.trans (x.2.trans w.2)⟩
  · rw [CNT.nt h a (by omega), d1, CNT.tr (KX g5) (show lX g ≤ lX g2 by omega) (show lX g2 ≤ lX g4 + 1 by omega), CNT.tr (KX g5) (show lX g2 ≤ lX g4 by omega) (show lX g4 ≤ lX g4 + 1 by omega), CNT.one (KX g5) rfl, d2, if_neg (show ¬ how ≤ 1 from by omega), CNT.c (K := KX g5) (K' := KX g2) (a := lX g) (fun i i0 i1 => (cd i (by omega) i1).1), CNT.c (K := KX g5) (K' := KX g4) (a := lX g2) (fun i i0 i1 => (d3 i (by omega) i1).1)]
    rw [l1] at o13
    rw [s13] at o23
    omega
  · rw [e4, d4]
    intro c0 F N O A Kc hb ht hr0
    refine PLG.end_ l7 h a (by omega) k3 ?_
    have r1 := (l8 c0 F N O A Kc hr0).tr (RUNG.st (G.plain (F := ntF k F) (n := N) (O := O) (A := A) (K := Kc) k0 hc1.1 hc1.2))
    have hd := ntF.hd k F
    have b27 := bdn_rg 27
    have hbF := bdn_rg (hdo F)
    have hF : bdn (hdo (ntF k F)) < 5 ∧ hdo (ntF k F) ≠ 31 ∧ hdo (ntF k F) ≠ 33 ∧ ¬ (24 ≤ hdo (ntF k F) ∧ hdo (ntF k F) ≤ 26) := by
      rcases hd with e | ⟨_, e⟩
      · rw [e]; omega
      · rw [e]; have := ht rfl; omega
    rw [l1] at o14
    obtain ⟨N1, O1, A1, m1, m2, m3, m4⟩ := o14 c0 (ntF k F) N O A Kc hF.1 (fun e => by omega) r1
    have r2 := m4.tr (RUNG.st (G.cmp (F := ntF k F) (n := N1) (O := O1) (A := A1) (K := Kc) k1 hc hF.2 hF.1))
    have bc : hdo ((c, (0 : Int)) :: ntF k F) = c := rfl
    have b0 := bdn_rg c
    rw [s13] at o24
    obtain ⟨N2, O2, A2, u1, u2, u3, u4⟩ := o24 c0 ((c, 0) :: ntF k F) N1 O1 A1 Kc (by rw [bc]; omega) (fun e => by omega) r2
    have l2' := lea_2 c3
    have r3 := RUNG.st (G.told (x := c) (a := 0) (R := ntF k F) (n := N2) (O := O2) (A := A2) (K := Kc) k3 (hj (f4 hz)) hc)
    have r4 := G.pop2 (F := (c, 0) :: ntF k F) (n := N2) (O := O2) (A := A2) (K := Kc) k3 (by rw [bc]; omega)
    rw [popg_op (show c ≠ 28 ∧ c ≠ 29 from by omega)] at r4
    refine ⟨N2 + 1, updG O2 N2 c, updG A2 N2 0, by omega, fun i i0 => ?_, ?_, (u4.tr r3).tr (RUNG.st r4)⟩
    · rw [updG_n (show i ≠ N2 from by omega), updG_n (show i ≠ N2 from by omega)]
      exact ⟨(u2 i (by omega)).1.trans (m2 i i0).1, (u2 i (by omega)).2.trans (m2 i i0).2⟩
    · rw [d1]
      have x1 : COR (KX g5) (VX g5) (updG O2 N2 c) (updG A2 N2 0) 0 (lX g) (lX g2) N N1 := m3.c (fun i i0 i1 => by
        have y := cd i (by omega) i1
        exact ⟨y.1.symm, y.2.symm⟩) (fun i i0 i1 => by
        rw [updG_n (show i ≠ N2 from by omega), updG_n (show i ≠ N2 from by omega)]
        have y := u2 i i1
        exact ⟨y.1.symm, y.2.symm⟩)
      have x2 : COR (KX g5) (VX g5) (updG O2 N2 c) (updG A2 N2 0) 0 (lX g2) (lX g4) N1 N2 := u3.c (fun i i0 i1 => by
        have y := d3 i (by omega) i1
        exact ⟨y.1.symm, y.2.symm⟩) (fun i i0 i1 => by
        rw [updG_n (show i ≠ N2 from by omega), updG_n (show i ≠ N2 from by omega)]
        exact ⟨rfl, rfl⟩)
      exact x1.bin x2 rfl rfl (by rw [d2]; exact Or.inr ⟨by omega, by omega, rfl, rfl⟩) (by rw [updG_q rfl, d2]; omega)
/-- a part in brackets -/
theorem PAG.sq (k1 : TOK T n (rX g 4) c (rX g1 4)) (hc : c = 3) (p1 : rX g 4 + 1 ≤ rX g1 4) (s1 : SMX g g1) (o : GPX T n g1 g2 1 5 3 0) (k2 : TOK T n (rX g2 4) c2 (rX g3 4)) (hc2 : c2 = 6) (p2 : rX g2 4 + 1 ≤ rX g3 4) (s2 : SMX g2 g3) (f2 : rX g3 2 = -1 → rX g2 2 = -1) : GPX T n g g3 1 7 3 0 := fun hz a b => by
  obtain ⟨s11, s12, s13, s14⟩ := s1
  obtain ⟨s21, s22, s23, s24⟩ := s2
  obtain ⟨o1, o2, o3, o4⟩ := o (f2 hz) (by omega) (by omega)
  have o0 := o1.1
  rw [s13] at o2 o3 o4
  refine ⟨⟨by omega, fun i i0 i1 => ?_⟩, by omega, by rw [s21, s23]; omega, ?_⟩
  · have x := o1.2 i i0 (by omega)
    rw [s11, s12] at x
    rw [s21, s22]
    exact x
  · intro c0 F N O A Kc hb ht hr0
    have b31 : hdo ((31, (0 : Int)) :: F) = 31 := rfl
    have b0 := bdn_rg 31
    obtain ⟨N1, O1, A1, m1, m2, m3, m4⟩ := o4 c0 ((31, 0) :: F) N O A Kc (by rw [b31]; omega) (fun e => by omega) (hr0.tr (RUNG.st (G.sq k1 hc)))
    refine ⟨N1, O1, A1, m1, m2, ?_, m4.tr (RUNG.st (G.sqE k2 hc2))⟩
    rw [s21, s22, s23]
    exact m3
/-- a leaf -/
theorem PAG.leaf (k1 : TOK T n (rX g 4) c (rX g1 4)) (hp : rX g 4 + 1 ≤ rX g1 4) {v : Int} (hc : (40 ≤ c ∧ c ≤ 48 ∧ how = 1 ∧ v = c - 40) ∨ (100 ≤ c ∧ how = 0 ∧ v = c - 100)) (ad : rX g1 2 = -1 → lX g < 400 → lX g1 = lX g + 1 ∧ KX g1 (lX g) = how ∧ VX g1 (lX g) = v ∧ (∀ i, 0 ≤ i → i < lX g → KX g1 i = KX g i ∧ VX g1 i = VX g i)) (h4 : rX g 4 < 400) (e6 : rX g1 6 = rX g 6 + 1) : GPX T n g g1 1 7 3 0 := fun hz a b => by
  obtain ⟨d1, d2, d3, d4⟩ := ad hz (by omega)
  refine ⟨⟨by omega, d4⟩, by omega, ?_, ?_⟩
  · rw [d1, CNT.one (KX g1) rfl, d2, if_pos (show how ≤ 1 from by omega)]
    omega
  · intro c0 F N O A Kc hb ht hr0
    rw [d1]
    rcases hc with ⟨c0', c1, c2, c3⟩ | ⟨c1, c2, c3⟩
    · refine ⟨N + 1, updG O N (c - 39), updG A N 0, by omega, fun i i0 => ⟨updG_n (by omega), updG_n (by omega)⟩, COR.leaf rfl rfl ?_, hr0.tr (RUNG.st (G.word k1 ⟨c0', c1⟩))⟩
      rw [d2, d3, updG_q rfl, updG_q rfl]
      exact Or.inr ⟨c2, by omega, by omega, by omega⟩
    · refine ⟨N + 1, updG O N 0, updG A N (c - 100), by omega, fun i i0 => ⟨updG_n (by omega), updG_n (by omega)⟩, COR.leaf rfl rfl ?_, hr0.tr (RUNG.st (G.num k1 c1))⟩
      rw [d2, d3, updG_q rfl, updG_q rfl]
      exact Or.inl ⟨c2, rfl, c3.symm⟩
end PLGT
/-- an instruction more, or none for want of room -/
def ADP (g g' : List en_E) (k v r : Int) : Prop := lX g < 400 → lX g' = lX g + 1 ∧ KX g' (lX g) = k ∧ VX g' (lX g) = v ∧ r = lX g ∧ ∀ i, 0 ≤ i → i ≠ lX g → KX g' i = KX g i ∧ VX g' i = VX g i
/-- where an instruction leads to -/
def AIMP (g g' : List en_E) (a : Int) : Prop := lX g' = lX g ∧ KX g' = KX g ∧ (0 ≤ a → a < lX g → VX g' a = lX g) ∧ ∀ i, 0 ≤ i → i ≠ a → VX g' i = VX g i
/-- the code of both is the same -/
def SCX (g g' : List en_E) : Prop := KX g' = KX g ∧ VX g' = VX g ∧ lX g' = lX g
theorem SCX.rf {g : List en_E} : SCX g g := ⟨rfl, rfl, rfl⟩
theorem SCX.mk {g g' : List en_E} (hK : gA g' 178 = gA g 178) (hV : gA g' 179 = gA g 179) (hl : gI g' 177 0 = gI g 177 0) : SCX g g' := ⟨KX.c hK, VX.c hV, lX.c hl⟩
theorem SCX.x {g g' : List en_E} (h : SCX g g') (e6 : rX g' 6 = rX g 6) : SMX g g' := ⟨h.1, h.2.1, h.2.2, e6⟩
theorem ADP.fr {g ga gb g' : List en_E} {k v r : Int} (h : ADP ga gb k v r) (s1 : SCX g ga) (s2 : SCX gb g') : ADP g g' k v r := by
  unfold ADP at *
  rw [s1.1, s1.2.1, s1.2.2] at h
  rw [s2.1, s2.2.1, s2.2.2]
  exact h
theorem AIMP.fr {g ga gb g' : List en_E} {a : Int} (h : AIMP ga gb a) (s1 : SCX g ga) (s2 : SCX gb g') : AIMP g g' a := by
  unfold AIMP at *
  rw [s1.1, s1.2.1, s1.2.2] at h
  rw [s2.1, s2.2.1, s2.2.2]
  exact h
theorem ADP.b {g g' : List en_E} {k v r : Int} (h : ADP g g' k v r) (hl : lX g < 400) : lX g' = lX g + 1 ∧ KX g' (lX g) = k ∧ (∀ i, 0 ≤ i → i < lX g → KX g' i = KX g i ∧ VX g' i = VX g i) := by
  obtain ⟨h1, h2, h3, h4, h5⟩ := h hl
  exact ⟨h1, h2, fun i i0 i1 => h5 i i0 (by omega)⟩
theorem ADP.x {g g' : List en_E} {k v r : Int} (h : ADP g g' k v r) (hl : lX g < 400) (e6 : rX g' 6 = rX g 6) : ADX g g' k := by
  obtain ⟨h1, h2, h3⟩ := h.b hl
  exact ⟨h1, h2, h3, e6⟩
theorem ADP.j {g g' : List en_E} {k v r : Int} (h : ADP g g' k v r) (hl : lX g < 400) : lX g' = lX g + 1 ∧ KX g' (lX g) = k ∧ r = lX g ∧ (∀ i, 0 ≤ i → i < lX g → KX g' i = KX g i ∧ VX g' i = VX g i) := by
  obtain ⟨h1, h2, h3, h4, h5⟩ := h hl
  exact ⟨h1, h2, h4, fun i i0 i1 => h5 i i0 (by omega)⟩
theorem ADP.l {g g' : List en_E} {k v r : Int} (h : ADP g g' k v r) (hl : lX g < 400) : lX g' = lX g + 1 ∧ KX g' (lX g) = k ∧ VX g' (lX g) = v ∧ (∀ i, 0 ≤ i → i < lX g → KX g' i = KX g i ∧ VX g' i = VX g i) := by
  obtain ⟨h1, h2, h3, h4, h5⟩ := h hl
  exact ⟨h1, h2, h3, fun i i0 i1 => h5 i i0 (by omega)⟩
theorem AIMP.b {g g' : List en_E} {a : Int} (h : AIMP g g' a) (h0 : 0 ≤ a) (hl : a < lX g) : lX g' = lX g ∧ VX g' a = lX g ∧ (∀ i, 0 ≤ i → KX g' i = KX g i) ∧ (∀ i, 0 ≤ i → i ≠ a → VX g' i = VX g i) := ⟨h.1, h.2.2.1 h0 hl, fun i _ => by rw [h.2.1], h.2.2.2⟩
/-! ===== clauses of the class's law, told with the machine ===== -/
/-- a clause of the class (its head, where its SUM, its TEST begin, where it ends) and one of the machine's -/
def CLC (K V O A : Int → Int) (h s t e : Int) (z : CLR) : Prop := h = z.1 ∧ 0 ≤ h ∧ h ≤ 2 ∧ (h ≤ 1 → COR K V O A 0 s t z.2.1 z.2.2.1) ∧ (h = 2 → s = t) ∧ ((t = e ∧ z.2.2.1 = z.2.2.2) ∨ COR K V O A 1 t e z.2.2.1 z.2.2.2) ∧ 0 ≤ s ∧ s ≤ t ∧ t ≤ e ∧ 0 ≤ z.2.1 ∧ z.2.1 ≤ z.2.2.1 ∧ z.2.2.1 ≤ z.2.2.2 ∧ (CNT K s t : Int) ≤ 50 ∧ (CNT K t e : Int) ≤ 50
def CLL (K V O A H S T E : Int → Int) (l n : Int) : Nat → List CLR → Prop
  | 0, L => L = []
  | k + 1, L => ∃ z r, L = z :: r ∧ CLC K V O A (H (k : Int)) (S (k : Int)) (T (k : Int)) (E (k : Int)) z ∧ E (k : Int) ≤ l ∧ z.2.2.2 ≤ n ∧ CLL K V O A H S T E l n k r
theorem CLC_c {K V O A K' V' O' A' : Int → Int} {h s t e : Int} {z : CLR} (c : CLC K V O A h s t e z) (hx : ∀ i, 0 ≤ i → i < e → K i = K' i ∧ V i = V' i) (hm : ∀ i, 0 ≤ i → i < z.2.2.2 → O i = O' i ∧ A i = A' i) : CLC K' V' O' A' h s t e z := by
  obtain ⟨h1, h2, h3, h4, h5, h6, h7, h8, h9, h10, h11, h12, h13, h14⟩ := c
  refine ⟨h1, h2, h3, fun x => (h4 x).c (fun i i0 i1 => hx i (by omega) (by omega)) (fun i i0 i1 => hm i (by omega) (by omega)), h5, ?_, h7, h8, h9, h10, h11, h12, ?_, ?_⟩
  · rcases h6 with h6 | h6
    · exact Or.inl h6
    · exact Or.inr (h6.c (fun i i0 i1 => hx i (by omega) (by omega)) (fun i i0 i1 => hm i (by omega) (by omega)))
  · rw [← CNT.c (K := K) (K' := K') (fun i i0 i1 => (hx i (by omega) (by omega)).1)]
    exact h13
  · rw [← CNT.c (K := K) (K' := K') (fun i i0 i1 => (hx i (by omega) (by omega)).1)]
    exact h14
theorem CLL_c {K V O A H S T E K' V' O' A' H' S' T' E' : Int → Int} {l n l' n' : Int} (hx : ∀ i, 0 ≤ i → i < l → K i = K' i ∧ V i = V' i) (hm : ∀ i, 0 ≤ i → i < n → O i = O' i ∧ A i = A' i) (hl : l ≤ l') (hn : n ≤ n') : ∀ (k : Nat) {L : List CLR}, (∀ i, 0 ≤ i → i < (k : Int) → H i = H' i ∧ S i = S' i ∧ T i = T' i ∧ E i = E' i) → CLL K V O A H S T E l n k L → CLL K' V' O' A' H' S' T' E' l' n' k L
  | 0, L, _, h => h
  | k + 1, L, e, h => by
    obtain ⟨z, r, h1, h2, h3, h4, h5⟩ := h
    obtain ⟨e1, e2, e3, e4⟩ := e (k : Int) (by omega) (by omega)
    refine ⟨z, r, h1, ?_, by rw [← e4]; omega, by omega, CLL_c hx hm hl hn k (fun i i0 i1 => e i i0 (by omega)) h5⟩
    rw [← e1, ← e2, ← e3, ← e4]
    exact CLC_c h2 (fun i i0 i1 => hx i i0 (by omega)) (fun i i0 i1 => hm i i0 (by omega))
theorem CLL_len {K V O A H S T E : Int → Int} {l n : Int} : ∀ (k : Nat) {L : List CLR}, CLL K V O A H S T E l n k L → L.length = k
  | 0, L, h => by
    have h' : L = [] := h
    rw [h']
    rfl
  | k + 1, L, h => by
    obtain ⟨z, r, h1, _, _, _, h5⟩ := h
    rw [h1, List.length_cons, CLL_len k h5]
/-- the draft's clauses -/
def hcX (g : List en_E) (i : Int) : Int := (eA g 180 i).toInt
def scX (g : List en_E) (i : Int) : Int := (eA g 181 i).toInt
def tcX (g : List en_E) (i : Int) : Int := (eA g 182 i).toInt
def ecX (g : List en_E) (i : Int) : Int := (eA g 183 i).toInt
/-- the draft against the machine -/
def DRX (g : List en_E) (N : Int) (O A : Int → Int) (L : List CLR) : Prop := CLL (KX g) (VX g) O A (hcX g) (scX g) (tcX g) (ecX g) (lX g) N (kX g).toNat L
/-- a clause, read -/
def CGX (T : Int → Int) (n : Int) (g g1 : List en_E) : Prop := rX g1 2 = -1 → 0 ≤ lX g → lX g ≤ rX g 4 → 0 ≤ kX g → 0 ≤ rX g 6 → rX g1 6 ≤ 50 → lX g ≤ lX g1 ∧ lX g1 - lX g ≤ rX g1 4 - rX g 4 ∧ kX g1 = kX g + 1 ∧ ∀ (c0 : CG) (N : Int) (O A : Int → Int) (L : List CLR), 0 ≤ N → DRX g N O A L → RUNG T n c0 (6, [], N, O, A, L, rX g 4) → ∃ N' O' A' L', N ≤ N' ∧ DRX g1 N' O' A' L' ∧ RUNG T n c0 (8, [], N', O', A', L', rX g1 4)
/-- what stands of a clause's own entries -/
def CEX (g g1 : List en_E) (h s t e : Int) : Prop := kX g1 = kX g + 1 ∧ hcX g1 (kX g) = h ∧ scX g1 (kX g) = s ∧ tcX g1 (kX g) = t ∧ ecX g1 (kX g) = e ∧ ∀ i, 0 ≤ i → i < kX g → hcX g1 i = hcX g i ∧ scX g1 i = scX g i ∧ tcX g1 i = tcX g i ∧ ecX g1 i = ecX g i
theorem DRX_s {g g1 : List en_E} {N N' : Int} {O A O' A' : Int → Int} {L : List CLR} {h s t e : Int} {z : CLR} (d : DRX g N O A L) (hk : 0 ≤ kX g) (kp : KPX g g1) (hn : N ≤ N') (hm : ∀ i, i < N → O' i = O i ∧ A' i = A i) (ce : CEX g g1 h s t e) (c : CLC (KX g1) (VX g1) O' A' h s t e z) (he : e ≤ lX g1) (hz : z.2.2.2 ≤ N') : DRX g1 N' O' A' (z :: L) := by
  obtain ⟨e0, e1, e2, e3, e4, e5⟩ := ce
  unfold DRX at *
  rw [show (kX g1).toNat = (kX g).toNat + 1 by omega]
  have ek : (((kX g).toNat : Nat) : Int) = kX g := by omega
  refine ⟨z, L, rfl, ?_, ?_, hz, ?_⟩
  · rw [ek, e1, e2, e3, e4]
    exact c
  · rw [ek, e4]
    exact he
  · exact CLL_c (fun i i0 i1 => by
      have y := kp.2 i i0 i1
      exact ⟨y.1.symm, y.2.symm⟩) (fun i i0 i1 => by
      have y := hm i i1
      exact ⟨y.1.symm, y.2.symm⟩) kp.1 hn _ (fun i i0 i1 => by
      have y := e5 i i0 (by omega)
      exact ⟨y.1.symm, y.2.1.symm, y.2.2.1.symm, y.2.2.2.symm⟩) d
section CGXS
variable {T : Int → Int} {n c c2 c3 q h : Int} {g g1 g2 g3 g4 g5 : List en_E}
theorem MGX_33 {g1 : List en_E} {a b p p' : Int} (m : MGX T n g1 a b 1 5 3 0 p p') {c0 : CG} {N : Int} {O A : Int → Int} {Kc : List CLR} (h : RUNG T n c0 (1, [(33, 0)], N, O, A, Kc, p)) : ∃ N' O' A', N ≤ N' ∧ (∀ i, i < N → O' i = O i ∧ A' i = A i) ∧ COR (KX g1) (VX g1) O' A' 0 a b N N' ∧ RUNG T n c0 (3, [(33, 0)], N', O', A', Kc, p') := m c0 [(33, 0)] N O A Kc (by rw [hdo_c]; decide) (fun e => absurd e (by decide)) h
theorem MGX_34 {g1 : List en_E} {a b p p' : Int} (m : MGX T n g1 a b 0 1 2 1 p p') {c0 : CG} {N : Int} {O A : Int → Int} {Kc : List CLR} (h : RUNG T n c0 (0, [(34, 0)], N, O, A, Kc, p)) : ∃ N' O' A', N ≤ N' ∧ (∀ i, i < N → O' i = O i ∧ A' i = A i) ∧ COR (KX g1) (VX g1) O' A' 1 a b N N' ∧ RUNG T n c0 (2, [(34, 0)], N', O', A', Kc, p') := m c0 [(34, 0)] N O A Kc (by rw [hdo_c]; decide) (fun _ => by rw [hdo_c]; decide) h
/-- bars alone -/
theorem CGX_b (k1 : TOK T n (rX g 4) c (rX g1 4)) (hc : c = 13) (p1 : rX g 4 ≤ rX g1 4) (s1 : SMX g g1) (k2 : TOK T n (rX g1 4) c2 q) (h2 : rX g2 2 = -1 → c2 ≠ 10) (s2 : SMX g1 g2) (e4 : rX g2 4 = rX g1 4) (ce : rX g2 2 = -1 → CEX g g2 2 (lX g) (lX g) (lX g)) : CGX T n g g2 := fun hz a b hk _ _ => by
  obtain ⟨s11, s12, s13, s14⟩ := s1
  obtain ⟨s21, s22, s23, s24⟩ := s2
  have ce' := ce hz
  have kp : KPX g g2 := ⟨by omega, fun i _ _ => ⟨by rw [s21, s11], by rw [s22, s12]⟩⟩
  refine ⟨by omega, by omega, ce'.1, fun c0 N O A L hN d r => ⟨N, O, A, _, Int.le_refl N, DRX_s (z := (2, N, N, N)) d hk kp (Int.le_refl N) (fun i _ => ⟨rfl, rfl⟩) ce' ⟨rfl, by decide, by decide, fun x => absurd x (by decide), fun _ => rfl, Or.inl ⟨rfl, rfl⟩, a, Int.le_refl _, Int.le_refl _, hN, Int.le_refl N, Int.le_refl N, by rw [CNT.z rfl]; decide, by rw [CNT.z rfl]; decide⟩ (by omega) (Int.le_refl N), ?_⟩⟩
  rw [e4]
  exact (r.tr (RUNG.st (G.clsB k1 hc))).tr (RUNG.st (G.noif k2 (h2 hz)))
/-- a head and its SUM -/
theorem CGX_s (k1 : TOK T n (rX g 4) c (rX g1 4)) (hc : 11 ≤ c ∧ c ≤ 12) (p1 : rX g 4 ≤ rX g1 4) (s1 : SMX g g1) (o : GPX T n g1 g2 1 5 3 0) (k2 : TOK T n (rX g2 4) c2 q) (hj : rX g2 2 = -1 → ¬ (20 ≤ c2 ∧ c2 ≤ 23)) (h2 : rX g3 2 = -1 → c2 ≠ 10) (s2 : SMX g2 g3) (e4 : rX g3 4 = rX g2 4) (e6 : rX g3 6 = rX g2 6) (f2 : rX g3 2 = -1 → rX g2 2 = -1) (ce : rX g3 2 = -1 → CEX g g3 (c - 11) (lX g) (lX g2) (lX g2)) : CGX T n g g3 := fun hz a b hk h6 h50 => by
  have h62 : rX g2 6 ≤ 50 := by omega
  obtain ⟨s11, s12, s13, s14⟩ := s1
  obtain ⟨s21, s22, s23, s24⟩ := s2
  have hz2 := f2 hz
  have ce' := ce hz
  obtain ⟨o1, o2, o3, o4⟩ := o hz2 (by omega) (by omega)
  have o10 := o1.1
  have kp : KPX g g3 := ⟨by omega, fun i i0 i1 => by
    have y := o1.2 i i0 (by omega)
    rw [s11, s12] at y
    rw [s21, s22]
    exact y⟩
  refine ⟨by omega, by omega, ce'.1, fun c0 N O A L hN d r => ?_⟩
  obtain ⟨N1, O1, A1, m1, m2, m3, m4⟩ := MGX_33 o4 (r.tr (RUNG.st (G.cls k1 hc)))
  rw [s13] at m3
  have l3 := m3.le
  refine ⟨N1, O1, A1, _, m1, DRX_s (z := (c - 11, N, N1, N1)) d hk kp m1 m2 ce' ⟨rfl, by omega, by omega, fun _ => by rw [s21, s22]; exact m3, fun x => by omega, Or.inl ⟨rfl, rfl⟩, a, by omega, Int.le_refl _, hN, m1, Int.le_refl N1, by rw [s21, ← s13, o3]; omega, by rw [CNT.z rfl]; decide⟩ (by omega) (Int.le_refl N1), ?_⟩
  rw [e4]
  exact (m4.tr (RUNG.st (G.sum k2 (hj hz2)))).tr (RUNG.st (G.noif k2 (h2 hz)))
/-- bars and a TEST -/
theorem CGX_bt (k1 : TOK T n (rX g 4) c (rX g1 4)) (hc : c = 13) (p1 : rX g 4 ≤ rX g1 4) (s1 : SMX g g1) (k2 : TOK T n (rX g1 4) c2 (rX g2 4)) (h2 : c2 = 10) (p2 : rX g1 4 ≤ rX g2 4) (s2 : SMX g1 g2) (o : GPX T n g2 g3 0 1 2 1) (k3 : TOK T n (rX g3 4) c3 q) (hj : rX g3 2 = -1 → ¬ (28 ≤ c3 ∧ c3 ≤ 29)) (s3 : SMX g3 g4) (e4 : rX g4 4 = rX g3 4) (e6 : rX g4 6 = rX g3 6) (f2 : rX g4 2 = -1 → rX g3 2 = -1) (ce : rX g4 2 = -1 → CEX g g4 2 (lX g) (lX g) (lX g3)) : CGX T n g g4 := fun hz a b hk h6 h50 => by
  have h63 : rX g3 6 ≤ 50 := by omega
  obtain ⟨s11, s12, s13, s14⟩ := s1
  obtain ⟨s21, s22, s23, s24⟩ := s2
  obtain ⟨s31, s32, s33, s34⟩ := s3
  have hz2 := f2 hz
  have ce' := ce hz
  obtain ⟨o1, o2, o3, o4⟩ := o hz2 (by omega) (by omega)
  have o10 := o1.1
  have kp : KPX g g4 := ⟨by omega, fun i i0 i1 => by
    have y := o1.2 i i0 (by omega)
    rw [s21, s22, s11, s12] at y
    rw [s31, s32]
    exact y⟩
  refine ⟨by omega, by omega, ce'.1, fun c0 N O A L hN d r => ?_⟩
  have r1 := (r.tr (RUNG.st (G.clsB k1 hc))).tr (RUNG.st (G.if_ k2 h2))
  obtain ⟨N1, O1, A1, m1, m2, m3, m4⟩ := MGX_34 o4 r1
  rw [s23, s13] at m3
  have l3 := m3.le
  refine ⟨N1, O1, A1, _, m1, DRX_s (z := (2, N, N, N1)) d hk kp m1 m2 ce' ⟨rfl, by decide, by decide, fun x => absurd x (by decide), fun _ => rfl, Or.inr (by rw [s31, s32]; exact m3), a, Int.le_refl _, by omega, hN, Int.le_refl N, m1, by rw [CNT.z rfl]; decide, by rw [s31, ← s13, ← s23, o3]; omega⟩ (by omega) (Int.le_refl N1), ?_⟩
  rw [e4]
  exact m4.tr (RUNG.st (G.test k3 (hj hz2)))
/-- a head, its SUM and a TEST -/
theorem CGX_st (k1 : TOK T n (rX g 4) c (rX g1 4)) (hc : 11 ≤ c ∧ c ≤ 12) (p1 : rX g 4 ≤ rX g1 4) (s1 : SMX g g1) (o : GPX T n g1 g2 1 5 3 0) (k2 : TOK T n (rX g2 4) c2 (rX g3 4)) (hj : rX g2 2 = -1 → ¬ (20 ≤ c2 ∧ c2 ≤ 23)) (h2 : c2 = 10) (p2 : rX g2 4 ≤ rX g3 4) (s2 : SMX g2 g3) (o2 : GPX T n g3 g4 0 1 2 1) (k3 : TOK T n (rX g4 4) c3 q) (hj3 : rX g4 2 = -1 → ¬ (28 ≤ c3 ∧ c3 ≤ 29)) (s3 : SMX g4 g5) (e4 : rX g5 4 = rX g4 4) (e6 : rX g5 6 = rX g4 6) (f2 : rX g5 2 = -1 → rX g2 2 = -1) (f4 : rX g5 2 = -1 → rX g4 2 = -1) (ce : rX g5 2 = -1 → CEX g g5 (c - 11) (lX g) (lX g2) (lX g4)) : CGX T n g g5 := fun hz a b hk h6 h50 => by
  have h64 : rX g4 6 ≤ 50 := by omega
  obtain ⟨s11, s12, s13, s14⟩ := s1
  obtain ⟨s21, s22, s23, s24⟩ := s2
  obtain ⟨s31, s32, s33, s34⟩ := s3
  have hz2 := f2 hz
  have hz4 := f4 hz
  have ce' := ce hz
  obtain ⟨o11, o12, o13, o14⟩ := o hz2 (by omega) (by omega)
  have o10 := o11.1
  obtain ⟨o21, o22, o23, o24⟩ := o2 hz4 (by omega) (by omega)
  have o20 := o21.1
  have h62 : rX g2 6 ≤ 50 := by omega
  have h63 : 0 ≤ rX g2 6 := by omega
  have k24 : ∀ i, 0 ≤ i → i < lX g2 → KX g4 i = KX g2 i ∧ VX g4 i = VX g2 i := fun i i0 i1 => by
    have y := o21.2 i i0 (by omega)
    rw [s21, s22] at y
    exact y
  have kp : KPX g g5 := ⟨by omega, fun i i0 i1 => by
    have y := o11.2 i i0 (by omega)
    rw [s11, s12] at y
    have x := k24 i i0 (by omega)
    rw [s31, s32]
    exact ⟨x.1.trans y.1, x.2.trans y.2⟩⟩
  refine ⟨by omega, by omega, ce'.1, fun c0 N O A L hN d r => ?_⟩
  obtain ⟨N1, O1, A1, m1, m2, m3, m4⟩ := MGX_33 o14 (r.tr (RUNG.st (G.cls k1 hc)))
  have r2 := (m4.tr (RUNG.st (G.sum k2 (hj hz2)))).tr (RUNG.st (G.if_ k2 h2))
  obtain ⟨N2, O2, A2, u1, u2, u3, u4⟩ := MGX_34 o24 r2
  rw [s13] at m3
  rw [s23] at u3
  have l3 := m3.le
  have l4 := u3.le
  have c3' : COR (KX g4) (VX g4) O2 A2 0 (lX g) (lX g2) N N1 := m3.c (fun i i0 i1 => by
    have y := k24 i (by omega) i1
    exact ⟨y.1.symm, y.2.symm⟩) (fun i i0 i1 => by
    have y := u2 i i1
    exact ⟨y.1.symm, y.2.symm⟩)
  refine ⟨N2, O2, A2, _, by omega, DRX_s (z := (c - 11, N, N1, N2)) d hk kp (by omega) (fun i i0 => ?_) ce' ⟨rfl, by omega, by omega, fun _ => by rw [s31, s32]; exact c3', fun x => by omega, Or.inr (by rw [s31, s32]; exact u3), a, by omega, by omega, hN, m1, u1, ?_, ?_⟩ (by omega) (Int.le_refl N2), ?_⟩
  · have y := u2 i (by omega)
    have x := m2 i i0
    exact ⟨y.1.trans x.1, y.2.trans x.2⟩
  · rw [s31, CNT.c (K := KX g4) (K' := KX g2) (fun i i0 i1 => (k24 i (by omega) i1).1), ← s13, o13]
    omega
  · rw [s31, ← s23, o23]
    omega
  · rw [e4]
    exact u4.tr (RUNG.st (G.test k3 (hj3 hz4)))
end CGXS
theorem TOK_lt {T : Int → Int} {n p c q : Int} (h : TOK T n p c q) (hc : c ≠ 0) : p + 1 ≤ q := by
  obtain ⟨s, e, a1, a2, a3⟩ := h
  have l := a1.le
  have s0 : s ≠ 0 := fun z => hc (by rw [a2]; exact if_pos z)
  have z := l.2.2.2.2.2 s0
  have w := a3.1
  omega
theorem LPG.rf {T : Int → Int} {n r how jump : Int} {g : List en_E} (h1 : how = -1) (h2 : jump = -1) : LPG T n g g r how jump := fun _ _ _ => ⟨KPX.rf, Or.inl ⟨h1, h2, rfl, rfl, rfl⟩⟩
/-- the text so far, from q on -/
def RGX (T : Int → Int) (n q : Int) (g : List en_E) : Prop := rX g 2 = -1 → 0 ≤ lX g ∧ lX g ≤ rX g 4 ∧ 0 ≤ kX g ∧ ∀ O A : Int → Int, ∃ N O' A' L, 0 ≤ N ∧ DRX g N O' A' L ∧ RUNG T n (6, [], 0, O, A, [], q) (8, [], N, O', A', L, rX g 4)
theorem DRX_c {g g' : List en_E} {N : Int} {O A : Int → Int} {L : List CLR} (d : DRX g N O A L) (s : SCX g g') (h0 : gA g' 180 = gA g 180) (h1 : gA g' 181 = gA g 181) (h2 : gA g' 182 = gA g 182) (h3 : gA g' 183 = gA g 183) (hk : kX g' = kX g) : DRX g' N O A L := by
  have e0 : hcX g' = hcX g := funext (fun _ => eA_ti h0)
  have e1 : scX g' = scX g := funext (fun _ => eA_ti h1)
  have e2 : tcX g' = tcX g := funext (fun _ => eA_ti h2)
  have e3 : ecX g' = ecX g := funext (fun _ => eA_ti h3)
  unfold DRX at *
  rw [s.1, s.2.1, s.2.2, e0, e1, e2, e3, hk]
  exact d
theorem RGX_start {T : Int → Int} {n : Int} {g g1 : List en_E} (c : CGX T n g g1) (f : rX g1 2 = -1 → rX g 2 = -1) (hl : lX g = 0) (hk : kX g = 0) (h4 : 0 ≤ rX g 4) (m1 : 0 ≤ rX g 6) (m2 : rX g1 2 = -1 → rX g1 6 ≤ 50) : RGX T n (rX g 4) g1 := fun hz => by
  obtain ⟨h1, h2, h3, h4'⟩ := c hz (by omega) (by omega) (by omega) m1 (m2 hz)
  refine ⟨by omega, by omega, by omega, fun O A => ?_⟩
  obtain ⟨N, O', A', L, m1, m2, m3⟩ := h4' (6, [], 0, O, A, [], rX g 4) 0 O A [] (Int.le_refl 0) (by unfold DRX; rw [hk]; rfl) (RUNG.rf rfl)
  exact ⟨N, O', A', L, m1, m2, m3⟩
theorem RGX_next {T : Int → Int} {n q c : Int} {g g1 g2 : List en_E} (h : RGX T n q g) (k1 : TOK T n (rX g 4) c (rX g1 4)) (hc : c = 14) (s : SCX g g1) (h0 : gA g1 180 = gA g 180) (h1 : gA g1 181 = gA g 181) (h2 : gA g1 182 = gA g 182) (h3 : gA g1 183 = gA g 183) (hk : kX g1 = kX g) (e : CGX T n g1 g2) (f : rX g2 2 = -1 → rX g 2 = -1) (m1 : rX g 2 = -1 → 0 ≤ rX g 6) (e6 : rX g1 6 = rX g 6) (m2 : rX g2 2 = -1 → rX g2 6 ≤ 50) : RGX T n q g2 := fun hz => by
  obtain ⟨a0, a1, a2, a3⟩ := h (f hz)
  have lt := TOK_lt k1 (by omega)
  have l1 := s.2.2
  have y1 := m1 (f hz)
  obtain ⟨b1, b2, b3, b4⟩ := e hz (by omega) (by omega) (by omega) (by omega) (m2 hz)
  refine ⟨by omega, by omega, by omega, fun O A => ?_⟩
  obtain ⟨N, O', A', L, m1, m2, m3⟩ := a3 O A
  obtain ⟨N2, O2, A2, L2, u1, u2, u3⟩ := b4 _ N O' A' L m1 (DRX_c m2 s h0 h1 h2 h3 hk) (m3.tr (RUNG.st (G.semi k1 hc)))
  exact ⟨N2, O2, A2, L2, by omega, u2, u3⟩
/-- a law read by the class -/
def RPG (g g' : List en_E) (r : Int) : Prop := r = 1 → ∃ q, SKP (TX g) (nX g) 0 q ∧ 0 ≤ lX g' ∧ lX g' ≤ 400 ∧ ∀ O A : Int → Int, ∃ N O' A' L p, 0 ≤ N ∧ DRX g' N O' A' L ∧ RUNG (TX g) (nX g) (6, [], 0, O, A, [], q) (9, [], N, O', A', L, p)
theorem RPG_mk {g0 g g' : List en_E} {r q q2 c : Int} (hq : SKP (TX g0) (nX g0) 0 q) (h : RGX (TX g0) (nX g0) q g) (hz : rX g 2 = -1) (k1 : TOK (TX g0) (nX g0) (rX g 4) c q2) (hc : c = 0) (h4 : rX g 4 ≤ 400) (s : SCX g g') (h0 : gA g' 180 = gA g 180) (h1 : gA g' 181 = gA g 181) (h2 : gA g' 182 = gA g 182) (h3 : gA g' 183 = gA g 183) (hk : kX g' = kX g) : RPG g0 g' r := fun _ => by
  obtain ⟨a0, a1, a2, a3⟩ := h hz
  refine ⟨q, hq, by rw [s.2.2]; exact a0, by rw [s.2.2]; omega, fun O A => ?_⟩
  obtain ⟨N, O', A', L, m1, m2, m3⟩ := a3 O A
  exact ⟨N, O', A', L, _, m1, DRX_c m2 s h0 h1 h2 h3 hk, m3.tr (RUNG.st (G.fin k1 hc))⟩
/-! ===== what a law tells: one function of the code, the same on both sides ===== -/
/-- run to a place: the top there; none: BROKEN on the way -/
def evV (F : EVF) (b : Int) : Nat → Int × List Int → Option Int
  | 0, _ => none
  | n + 1, z => if b ≤ z.1 then some (z.2.headD 0) else (F z).bind (evV F b n)
theorem evV_go (F : EVF) {b : Int} {S' : List Int} : ∀ (n N : Nat) {z : Int × List Int}, n < N → itr F n z = some (b, S') → (∀ m, m < n → ∃ y, itr F m z = some y ∧ y.1 < b) → evV F b N z = some (S'.headD 0)
  | _, 0, z, h, _, _ => absurd h (by omega)
  | 0, N + 1, z, _, h, _ => by
    have e : z = (b, S') := Option.some.inj h
    rw [e]
    exact if_pos (Int.le_refl b)
  | n + 1, N + 1, z, hn, h, k => by
    obtain ⟨y, y1, y2⟩ := k 0 (by omega)
    have e : z = y := Option.some.inj y1
    have h' : (F z).bind (itr F n) = some (b, S') := h
    show (if b ≤ z.1 then some (z.2.headD 0) else (F z).bind (evV F b N)) = _
    rw [if_neg (by rw [e]; omega)]
    cases hz : F z with
    | none => rw [hz] at h'; cases h'
    | some w =>
      rw [hz] at h'
      exact evV_go F n N (by omega) h' (fun m hm => by
        obtain ⟨y, y1, y2⟩ := k (m + 1) (by omega)
        have y1' : (F z).bind (itr F m) = some y := y1
        rw [hz] at y1'
        exact ⟨y, y1', y2⟩)
theorem evV_gb (F : EVF) {b : Int} : ∀ (n N : Nat) {z : Int × List Int}, n < N → itr F (n + 1) z = none → (∀ m, m < n + 1 → ∃ y, itr F m z = some y ∧ y.1 < b) → evV F b N z = none
  | _, 0, z, h, _, _ => absurd h (by omega)
  | n, N + 1, z, hn, h, k => by
    obtain ⟨y, y1, y2⟩ := k 0 (by omega)
    have e : z = y := Option.some.inj y1
    have h' : (F z).bind (itr F n) = none := h
    show (if b ≤ z.1 then some (z.2.headD 0) else (F z).bind (evV F b N)) = _
    rw [if_neg (by rw [e]; omega)]
    cases hz : F z with
    | none => rfl
    | some w =>
      rw [hz] at h'
      cases n with
      | zero => cases h'
      | succ n =>
        exact evV_gb F n N (by omega) h' (fun m hm => by
          obtain ⟨y, y1, y2⟩ := k (m + 1) (by omega)
          have y1' : (F z).bind (itr F m) = some y := y1
          rw [hz] at y1'
          exact ⟨y, y1', y2⟩)
section EVLS
variable {F : EVF} {o : Int → Int} {a b : Int} {S S' : List Int}
theorem GO_ev (h : GO F o a b S S') (l : b - a ≤ 400) : evV F b 401 (a, S) = some (S'.headD 0) := by
  obtain ⟨n, h1, hb, h2⟩ := h
  exact evV_go F n 401 (by omega) h1 (fun m hm => by
    obtain ⟨y, y1, _, y3, _⟩ := h2 m hm
    exact ⟨y, y1, y3⟩)
theorem GB_ev (h : GB F o a b S) (l : b - a ≤ 400) : evV F b 401 (a, S) = none := by
  obtain ⟨n, h1, hb, h2⟩ := h
  exact evV_gb F n 401 (by omega) h1 (fun m hm => by
    obtain ⟨y, y1, _, y3, _⟩ := h2 m hm
    exact ⟨y, y1, y3⟩)
theorem LK_ev {W K V O A : Int → Int} {y a' b' : Int} (h : LK W K V O A y a b a' b' S) (l : b - a ≤ 400) (l' : b' - a' ≤ 400) : evV (exX W K V) b 401 (a, S) = evV (exM W O A) b' 401 (a', S) := by
  rcases h with ⟨v, _, h1, h2⟩ | ⟨h1, h2⟩
  · rw [GO_ev h1 l, GO_ev h2 l']
  · rw [GB_ev h1 l, GB_ev h2 l']
end EVLS
/-- whether a clause's TEST is so (without one: it is) -/
def tsO (F : EVF) (m e : Int) : Bool := if m = e then true else (evV F e 401 (m, [])).any (fun v => decide (v ≠ 0))
/-- what a clause tells, if it HOLDS -/
def clO (F : EVF) (s t m e : Int) : Option Int := if tsO F m e then evV F t 401 (s, []) else none
/-- what the last of the first k clauses with a head that HOLDS tells; without: d -/
def tlV (H : Int → Int) (out : Int → Option Int) (h : Int) : Nat → Int → Int
  | 0, d => d
  | k + 1, d => if H (k : Int) = h then (out (k : Int)).getD (tlV H out h k d) else tlV H out h k d
theorem tlV_s (H : Int → Int) (out : Int → Option Int) (h : Int) (k : Nat) (d : Int) : tlV H out h (k + 1) d = if H (k : Int) = h then (out (k : Int)).getD (tlV H out h k d) else tlV H out h k d := rfl
theorem tlV_c {H H' : Int → Int} {out out' : Int → Option Int} {h d : Int} : ∀ k : Nat, (∀ i : Int, 0 ≤ i → i < (k : Int) → H i = H' i ∧ (H i = h → out i = out' i)) → tlV H out h k d = tlV H' out' h k d
  | 0, _ => rfl
  | k + 1, e => by
    have ih := tlV_c (d := d) k (fun i i0 i1 => e i i0 (by omega))
    obtain ⟨e1, e2⟩ := e (k : Int) (by omega) (by omega)
    rw [tlV_s, tlV_s, ← e1, ih]
    by_cases c : H (k : Int) = h
    · rw [if_pos c, if_pos c, e2 c]
    · rw [if_neg c, if_neg c]
theorem tlV_no {H : Int → Int} {out : Int → Option Int} {h d : Int} : ∀ k : Nat, (∀ i : Int, 0 ≤ i → i < (k : Int) → H i ≠ h) → tlV H out h k d = d
  | 0, _ => rfl
  | k + 1, e => by
    rw [tlV_s, if_neg (e (k : Int) (by omega) (by omega))]
    exact tlV_no k (fun i i0 i1 => e i i0 (by omega))
section CLOS
variable {W K V O A : Int → Int} {h s t e : Int} {z : CLR}
theorem CLC_run (c : CLC K V O A h s t e z) (hh : h ≤ 1) : LK W K V O A 0 s t z.2.1 z.2.2.1 [] := by
  obtain ⟨h1, h2, h3, h4, h5, h6, h7, h8, h9, h10, h11, h12, h13, h14⟩ := c
  obtain ⟨f, q⟩ := h4 hh
  exact cor.run f q (by show 0 + CNT K s t ≤ 64; omega)
theorem CLC_tst (c : CLC K V O A h s t e z) : (t = e ∧ z.2.2.1 = z.2.2.2) ∨ (t < e ∧ z.2.2.1 < z.2.2.2 ∧ LK W K V O A 1 t e z.2.2.1 z.2.2.2 []) := by
  obtain ⟨h1, h2, h3, h4, h5, h6, h7, h8, h9, h10, h11, h12, h13, h14⟩ := c
  rcases h6 with h6 | ⟨f, q⟩
  · exact Or.inl h6
  · have l := cor.le f q
    exact Or.inr ⟨l.1, l.2, cor.run f q (by show 0 + CNT K t e ≤ 64; omega)⟩
/-- a clause tells the same on both sides -/
theorem CLC_same (c : CLC K V O A h s t e z) (hh : h ≤ 1) (he : e ≤ 400) (hz : z.2.2.2 ≤ 400) : clO (exX W K V) s t t e = clO (exM W O A) z.2.1 z.2.2.1 z.2.2.1 z.2.2.2 := by
  have r := CLC_run (W := W) c hh
  have x := CLC_tst (W := W) c
  obtain ⟨h1, h2, h3, h4, h5, h6, h7, h8, h9, h10, h11, h12, h13, h14⟩ := c
  have e1 : tsO (exX W K V) t e = tsO (exM W O A) z.2.2.1 z.2.2.2 := by
    unfold tsO
    rcases x with ⟨x1, x2⟩ | ⟨x1, x2, x3⟩
    · rw [if_pos x1, if_pos x2]
    · rw [if_neg (show ¬ t = e from by omega), if_neg (show ¬ z.2.2.1 = z.2.2.2 from by omega), LK_ev x3 (by omega) (by omega)]
  unfold clO
  rw [e1, LK_ev r (by omega) (by omega)]
end CLOS
theorem clO_e {F : EVF} {s t m e s' t' m' e' : Int} (h1 : s = s') (h2 : t = t') (h3 : m = m') (h4 : e = e') : clO F s t m e = clO F s' t' m' e' := by
  subst h1 h2 h3 h4
  exact Eq.refl _
theorem LAW_pt {W K V O A H S T E R : Int → Int} {l n : Int} (hl : l ≤ 400) (hn : n ≤ 400) : ∀ (k : Nat) (L : List CLR), CLL K V O A H S T E l n k L → MCL R k L → ∀ i : Int, 0 ≤ i → i < (k : Int) → H i = R (2 + 8 * i) ∧ (H i = 1 → clO (exX W K V) (S i) (T i) (T i) (E i) = clO (exM W O A) (R (2 + 8 * i + 3)) (R (2 + 8 * i + 4)) (R (2 + 8 * i + 5)) (R (2 + 8 * i + 6))) := by
  intro k
  induction k with
  | zero => intro L _ _ i i0 i1; exact absurd i1 (by omega)
  | succ k ih =>
    intro L h m i i0 i1
    obtain ⟨z, r, h1, h2, h3, h4, h5⟩ := h
    obtain ⟨z', r', m1, m2, m3, m4, m5, m6, m7⟩ := m
    obtain ⟨rfl, rfl⟩ := List.cons.inj (h1.symm.trans m1)
    by_cases d : i = (k : Int)
    · subst d
      have hz := h2.1
      exact ⟨hz.trans m2.symm, fun e1 => (CLC_same (W := W) h2 (by omega) (by omega) (by omega)).trans (clO_e m3.symm m4.symm m5.symm m6.symm)⟩
    · exact ih r h5 m7 i i0 (by omega)
/-- a law tells the same on both sides -/
theorem LAW_same {W K V O A H S T E R : Int → Int} {l n d : Int} (hl : l ≤ 400) (hn : n ≤ 400) (k : Nat) (L : List CLR) (h : CLL K V O A H S T E l n k L) (m : MCL R k L) : tlV H (fun i => clO (exX W K V) (S i) (T i) (T i) (E i)) 1 k d = tlV (fun i => R (2 + 8 * i)) (fun i => clO (exM W O A) (R (2 + 8 * i + 3)) (R (2 + 8 * i + 4)) (R (2 + 8 * i + 5)) (R (2 + 8 * i + 6))) 1 k d := tlV_c k (LAW_pt hl hn k L h m)
/-! ===== laws kept, on both sides ===== -/
def DRL (g : List en_E) (o : Nat) (N : Int) (O A : Int → Int) (L : List CLR) : Prop := CLL (fun i => (eA g (o + 1) i).toInt) (fun i => (eA g (o + 2) i).toInt) O A (fun i => (eA g (o + 3) i).toInt) (fun i => (eA g (o + 4) i).toInt) (fun i => (eA g (o + 5) i).toInt) (fun i => (eA g (o + 6) i).toInt) (gI g o 0).toInt N (gI g o 3).toInt.toNat L
theorem DRL_x {g : List en_E} {N : Int} {O A : Int → Int} {L : List CLR} (d : DRX g N O A L) : DRL g 177 N O A L := d
/-- a law of one heap as one of another -/
def LSM (g g' : List en_E) (q r : Nat) : Prop := (∀ k : Nat, 1 ≤ k → k ≤ 6 → gA g' (q + k) = gA g (r + k)) ∧ gI g' q 0 = gI g r 0 ∧ gI g' q 3 = gI g r 3 ∧ gI g' q 4 = gI g r 4
theorem LSM_rf {g : List en_E} {q : Nat} : LSM g g q q := ⟨fun _ _ _ => rfl, rfl, rfl, rfl⟩
theorem LSM_tr {g g1 g2 : List en_E} {q r s : Nat} (h : LSM g g1 r s) (k : LSM g1 g2 q r) : LSM g g2 q s := ⟨fun j a b => (k.1 j a b).trans (h.1 j a b), k.2.1.trans h.2.1, k.2.2.1.trans h.2.2.1, k.2.2.2.trans h.2.2.2⟩
theorem LSM_e {g g' : List en_E} {q r : Nat} (s : LSM g g' q r) (k : Nat) (h1 : 1 ≤ k) (h6 : k ≤ 6) : (fun i : Int => (eA g' (q + k) i).toInt) = fun i => (eA g (r + k) i).toInt := funext (fun _ => eA_tq (s.1 k h1 h6))
theorem DRL_c {g g' : List en_E} {q r : Nat} {N : Int} {O A : Int → Int} {L : List CLR} (h : DRL g r N O A L) (s : LSM g g' q r) : DRL g' q N O A L := by
  unfold DRL at *
  rw [LSM_e s 1 (by decide) (by decide), LSM_e s 2 (by decide) (by decide), LSM_e s 3 (by decide) (by decide), LSM_e s 4 (by decide) (by decide), LSM_e s 5 (by decide) (by decide), LSM_e s 6 (by decide) (by decide), s.2.1, s.2.2.1]
  exact h
/-- a law: the class's object, the reference's row -/
def LRL (g : List en_E) (o : Nat) (R : Int → Int) : Prop := ∃ N O A L, DRL g o N O A L ∧ MLW R N O A L ∧ (gI g o 0).toInt ≤ 400 ∧ (¬ hbI (gI g o 4) 1 → ∀ i : Int, 0 ≤ i → i < (gI g o 3).toInt → (eA g (o + 3) i).toInt ≠ 1)
theorem LRL_c {g g' : List en_E} {q r : Nat} {R R' : Int → Int} (h : LRL g r R) (s : LSM g g' q r) (e : ∀ i : Int, 1 ≤ i → i < 900 → R i = R' i) : LRL g' q R' := by
  obtain ⟨N, O, A, L, h1, h2, h3, h4⟩ := h
  refine ⟨N, O, A, L, DRL_c h1 s, MLW_c h2 e, by rw [s.2.1]; exact h3, fun hb i i0 i1 => ?_⟩
  rw [s.2.2.2] at hb
  rw [s.2.2.1] at i1
  rw [eA_tq (s.1 3 (by decide) (by decide))]
  exact h4 hb i i0 i1
/-- what a frame leaves of a law's object -/
def lawF (F : List (Nat × Nat)) (A : List Nat) (o : Nat) : Bool := !memF F o 0 && !memF F o 3 && !memF F o 4 && !memA A (o + 1) && !memA A (o + 2) && !memA A (o + 3) && !memA A (o + 4) && !memA A (o + 5) && !memA A (o + 6)
theorem LSM_fr {F : List (Nat × Nat)} {A : List Nat} {g g' : List en_E} {o : Nat} (h : Fr F A g g') (hd : lawF F A o = true) : LSM g g' o o := by
  unfold lawF at hd
  simp only [Bool.and_eq_true, Bool.not_eq_true'] at hd
  obtain ⟨⟨⟨⟨⟨⟨⟨⟨d0, d3⟩, d4⟩, a1⟩, a2⟩, a3⟩, a4⟩, a5⟩, a6⟩ := hd
  refine ⟨fun k k1 k6 => ?_, h.1 o 0 d0, h.1 o 3 d3, h.1 o 4 d4⟩
  rcases (show k = 1 ∨ k = 2 ∨ k = 3 ∨ k = 4 ∨ k = 5 ∨ k = 6 by omega) with e | e | e | e | e | e <;> subst e
  · exact h.2.1 _ a1
  · exact h.2.1 _ a2
  · exact h.2.1 _ a3
  · exact h.2.1 _ a4
  · exact h.2.1 _ a5
  · exact h.2.1 _ a6
/-- the laws of one of the three: the class's from an object on, the reference's rows -/
def LWB (g : List en_E) (B : Nat) (c : Int) (R : Int → Int) : Prop := ∀ k : Nat, k < 6 → (k : Int) < c → LRL g (B + 15 + 7 * k) (fun i => R (900 * (k : Int) + i))
theorem LWB_c {g g' : List en_E} {B B' : Nat} {c c' : Int} {R R' : Int → Int} (h : LWB g B c R) (hs : ∀ k : Nat, k < 6 → LSM g g' (B' + 15 + 7 * k) (B + 15 + 7 * k)) (hc : c' = c) (hR : ∀ j : Int, 0 ≤ j → j < 5400 → R j = R' j) : LWB g' B' c' R' := fun k k6 kc => LRL_c (h k k6 (by omega)) (hs k k6) (fun i i0 i1 => hR _ (by omega) (by omega))
theorem LWB_fr {F : List (Nat × Nat)} {A : List Nat} {g g' : List en_E} {B : Nat} {c c' : Int} {R R' : Int → Int} (h : LWB g B c R) (hF : Fr F A g g') (hd : ((List.range 6).all (fun k => lawF F A (B + 15 + 7 * k))) = true) (hc : c' = c) (hR : ∀ j : Int, 0 ≤ j → j < 5400 → R j = R' j) : LWB g' B c' R' := LWB_c h (fun k k6 => LSM_fr hF (List.all_eq_true.mp hd k (List.mem_range.mpr k6))) hc hR
/-- one more -/
theorem LWB_s {g g' : List en_E} {B : Nat} {c c' : Int} {R R' : Int → Int} (h : LWB g B c R) (hc : c' = c + 1) (c0 : 0 ≤ c) (hs : ∀ k : Nat, k < 6 → (k : Int) < c → LSM g g' (B + 15 + 7 * k) (B + 15 + 7 * k)) (hR : ∀ j : Int, 0 ≤ j → j < 5400 → (j < 900 * c ∨ 900 * c + 900 ≤ j) → R j = R' j) (hn : ∀ k : Nat, (k : Int) = c → LRL g' (B + 15 + 7 * k) (fun i => R' (900 * (k : Int) + i))) : LWB g' B c' R' := fun k k6 kc => by
  by_cases e : (k : Int) = c
  · exact hn k e
  · exact LRL_c (h k k6 (by omega)) (hs k k6 (by omega)) (fun i i0 i1 => hR _ (by omega) (by omega) (Or.inl (by omega)))
theorem LWB_z {g : List en_E} {B : Nat} {c : Int} {R : Int → Int} (h : c ≤ 0) : LWB g B c R := fun k _ kc => absurd kc (by omega)
/-- the same machine over both tapes -/
def PLZ (z : CG) : Prop := 0 ≤ z.2.2.2.2.2.2
theorem itP {c : Prop} [Decidable c] {a b : CG} (ha : PLZ a) (hb : PLZ b) : PLZ (if c then a else b) := by
  by_cases h : c
  · rw [if_pos h]; exact ha
  · rw [if_neg h]; exact hb
theorem stg_p {c q : Int} {z : CG} (hq : 0 ≤ q) (h0 : 0 ≤ z.2.2.2.2.2.2) : 0 ≤ (stg c q z).2.2.2.2.2.2 := by
  have hp : PLZ (popg z) := by
    show 0 ≤ (popg z).2.2.2.2.2.2
    rw [popg_p]
    exact h0
  have hb : PLZ BADG := Int.le_refl 0
  show PLZ (stg c q z)
  unfold stg
  repeat' (first | refine itP ?_ ?_ | exact hp | exact hb | exact hq | exact h0)
theorem rgN_cg {T T' : Int → Int} {n : Int} (h : ∀ k, 0 ≤ k → k < n → T k = T' k) : ∀ (k : Nat) {a b : CG}, 0 ≤ a.2.2.2.2.2.2 → rgN T n k a b → rgN T' n k a b
  | 0, _, _, _, r => r
  | k + 1, a, b, h0, r => by
    obtain ⟨d, ⟨c, q, h1, h2⟩, h3⟩ := r
    have x := h1.cg h h0
    refine ⟨d, ⟨c, q, x.1, h2⟩, rgN_cg h k ?_ h3⟩
    rw [h2]
    exact stg_p x.2 h0
theorem RUNG_cg {T T' : Int → Int} {n : Int} {a b : CG} (h : ∀ k, 0 ≤ k → k < n → T k = T' k) (h0 : 0 ≤ a.2.2.2.2.2.2) (r : RUNG T n a b) : RUNG T' n a b := by
  obtain ⟨k, r⟩ := r
  exact ⟨k, rgN_cg h k h0 r⟩
/-! the clause's turns, each with its heap named first -/
section AGPS
variable {T : Int → Int} {n : Int} {c0 : CG} {g g' : List en_E} {t c : Int} {F : List (Int × Int)} {K : List CLR}
theorem RGM_eqH (_q : HI g') (h : RGM T n c0 g t F K) (s : SMG g g') (h9 : pI g' 9 = pI g 9) : RGM T n c0 g' t F K := RGM_eq h s h9
theorem RGM_headH (_q : HI g') (h : RGM T n c0 g 6 [] K) (k : TOK T n (pI g 9) c (pI g' 9)) (hc : 11 ≤ c ∧ c ≤ 12) (s : SMG g g') : RGM T n c0 g' 1 [(33, 0)] ((c - 11, pI g 17, pI g 17, pI g 17) :: K) := RGM_head h k hc s
theorem RGM_headBH (_q : HI g') (h : RGM T n c0 g 6 [] K) (k : TOK T n (pI g 9) c (pI g' 9)) (hc : c = 13) (s : SMG g g') : RGM T n c0 g' 7 [] ((2, pI g 17, pI g 17, pI g 17) :: K) := RGM_headB h k hc s
theorem TOK_at (_q : HI g') {p q : Int} (k : TOK T n p c q) (e : pI g' 9 = q) : TOK T n p c (pI g' 9) := e ▸ k
theorem TOK_fr (_q : HI g') {p q : Int} (k : TOK T n p c q) (e : pI g' 9 = p) : TOK T n (pI g' 9) c q := e ▸ k
theorem KLG_sH (_q : HI g') {h a m e : Int} (h0 : 0 ≤ pI g 15) (hk : pI g' 15 = pI g 15 + 1) (hN : ∀ i : Int, 0 ≤ i → i < 8 * (gI g 231 15).toInt → eA g' 237 i = eA g 237 i) (e0 : pE g' 237 (8 * pI g 15) = h) (e3 : pE g' 237 (8 * pI g 15 + 3) = a) (e4 : pE g' 237 (8 * pI g 15 + 4) = m) (e6 : pE g' 237 (8 * pI g 15 + 6) = e) : KLG g' = (h, a, m, e) :: KLG g := KLG_s h0 hk hN e0 e3 e4 e6
theorem N45_sH (n45 : N45 g) (hk : pI g' 15 = pI g 15 + 1) (hN : ∀ i : Int, 0 ≤ i → i < 8 * (gI g 231 15).toInt → eA g' 237 i = eA g 237 i) {m : Int} (e4 : pE g' 237 (8 * pI g 15 + 4) = m) (e5 : pE g' 237 (8 * pI g 15 + 5) = m) : N45 g' := N45_s n45 hk hN e4 e5
end AGPS
