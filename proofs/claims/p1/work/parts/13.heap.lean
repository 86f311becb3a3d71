-- the cells behind new LeftHands(), and those behind new LeftHandsModel() (its own refs from 231 on)
def hp_X : List en_E := [
  .inr (10, [.ref 1, .ref 58, .ref 173, .ref 174, .ref 176, .ref 184, .ref 188, .ref 204, .ref 220, .ref 222, .ref 223, .ref 228, .ref 229, .ref 230, .int 0, .int 0, .int 0, .int 0]),
  .inr (0, [.int 0, .ref 2, .ref 3, .ref 4, .int 0, .ref 5, .int 0, .ref 6, .ref 7, .int (-1), .int 60, .int 2, .int 0, .ref 14, .ref 15]),
  .inl (0, .inl (List.replicate 12 0)),
  .inl (0, .inl (List.replicate 12 0)),
  .inl (0, .inl (List.replicate 12 0)),
  .inl (0, .inl (List.replicate 48 0)),
  .inl (3, .inr (.inr ([some 16, some 23, some 30, some 37, some 44, some 51]))),
  .inr (4, [.int 0, .ref 8, .ref 9, .int 0, .int 0, .ref 10, .ref 11, .ref 12, .ref 13]),
  .inl (0, .inl (List.replicate 400 0)),
  .inl (0, .inl (List.replicate 400 0)),
  .inl (0, .inl (List.replicate 12 0)),
  .inl (0, .inl (List.replicate 12 0)),
  .inl (0, .inl (List.replicate 12 0)),
  .inl (0, .inl (List.replicate 12 0)),
  .inl (0, .inl (List.replicate 8 0)),
  .inl (0, .inl (List.replicate 8 0)),
  .inr (4, [.int 0, .ref 17, .ref 18, .int 0, .int 0, .ref 19, .ref 20, .ref 21, .ref 22]),
  .inl (0, .inl (List.replicate 400 0)),
  .inl (0, .inl (List.replicate 400 0)),
  .inl (0, .inl (List.replicate 12 0)),
  .inl (0, .inl (List.replicate 12 0)),
  .inl (0, .inl (List.replicate 12 0)),
  .inl (0, .inl (List.replicate 12 0)),
  .inr (4, [.int 0, .ref 24, .ref 25, .int 0, .int 0, .ref 26, .ref 27, .ref 28, .ref 29]),
  .inl (0, .inl (List.replicate 400 0)),
  .inl (0, .inl (List.replicate 400 0)),
  .inl (0, .inl (List.replicate 12 0)),
  .inl (0, .inl (List.replicate 12 0)),
  .inl (0, .inl (List.replicate 12 0)),
  .inl (0, .inl (List.replicate 12 0)),
  .inr (4, [.int 0, .ref 31, .ref 32, .int 0, .int 0, .ref 33, .ref 34, .ref 35, .ref 36]),
  .inl (0, .inl (List.replicate 400 0)),
  .inl (0, .inl (List.replicate 400 0)),
  .inl (0, .inl (List.replicate 12 0)),
  .inl (0, .inl (List.replicate 12 0)),
  .inl (0, .inl (List.replicate 12 0)),
  .inl (0, .inl (List.replicate 12 0)),
  .inr (4, [.int 0, .ref 38, .ref 39, .int 0, .int 0, .ref 40, .ref 41, .ref 42, .ref 43]),
  .inl (0, .inl (List.replicate 400 0)),
  .inl (0, .inl (List.replicate 400 0)),
  .inl (0, .inl (List.replicate 12 0)),
  .inl (0, .inl (List.replicate 12 0)),
  .inl (0, .inl (List.replicate 12 0)),
  .inl (0, .inl (List.replicate 12 0)),
  .inr (4, [.int 0, .ref 45, .ref 46, .int 0, .int 0, .ref 47, .ref 48, .ref 49, .ref 50]),
  .inl (0, .inl (List.replicate 400 0)),
  .inl (0, .inl (List.replicate 400 0)),
  .inl (0, .inl (List.replicate 12 0)),
  .inl (0, .inl (List.replicate 12 0)),
  .inl (0, .inl (List.replicate 12 0)),
  .inl (0, .inl (List.replicate 12 0)),
  .inr (4, [.int 0, .ref 52, .ref 53, .int 0, .int 0, .ref 54, .ref 55, .ref 56, .ref 57]),
  .inl (0, .inl (List.replicate 400 0)),
  .inl (0, .inl (List.replicate 400 0)),
  .inl (0, .inl (List.replicate 12 0)),
  .inl (0, .inl (List.replicate 12 0)),
  .inl (0, .inl (List.replicate 12 0)),
  .inl (0, .inl (List.replicate 12 0)),
  .inl (4, .inr (.inr ([some 59, some 116]))),
  .inr (0, [.int 0, .ref 60, .ref 61, .ref 62, .int 0, .ref 63, .int 0, .ref 64, .ref 65, .int (-1), .int 60, .int 2, .int 0, .ref 72, .ref 73]),
  .inl (0, .inl (List.replicate 12 0)),
  .inl (0, .inl (List.replicate 12 0)),
  .inl (0, .inl (List.replicate 12 0)),
  .inl (0, .inl (List.replicate 48 0)),
  .inl (3, .inr (.inr ([some 74, some 81, some 88, some 95, some 102, some 109]))),
  .inr (4, [.int 0, .ref 66, .ref 67, .int 0, .int 0, .ref 68, .ref 69, .ref 70, .ref 71]),
  .inl (0, .inl (List.replicate 400 0)),
  .inl (0, .inl (List.replicate 400 0)),
  .inl (0, .inl (List.replicate 12 0)),
  .inl (0, .inl (List.replicate 12 0)),
  .inl (0, .inl (List.replicate 12 0)),
  .inl (0, .inl (List.replicate 12 0)),
  .inl (0, .inl (List.replicate 8 0)),
  .inl (0, .inl (List.replicate 8 0)),
  .inr (4, [.int 0, .ref 75, .ref 76, .int 0, .int 0, .ref 77, .ref 78, .ref 79, .ref 80]),
  .inl (0, .inl (List.replicate 400 0)),
  .inl (0, .inl (List.replicate 400 0)),
  .inl (0, .inl (List.replicate 12 0)),
  .inl (0, .inl (List.replicate 12 0)),
  .inl (0, .inl (List.replicate 12 0)),
  .inl (0, .inl (List.replicate 12 0)),
  .inr (4, [.int 0, .ref 82, .ref 83, .int 0, .int 0, .ref 84, .ref 85, .ref 86, .ref 87]),
  .inl (0, .inl (List.replicate 400 0)),
  .inl (0, .inl (List.replicate 400 0)),
  .inl (0, .inl (List.replicate 12 0)),
  .inl (0, .inl (List.replicate 12 0)),
  .inl (0, .inl (List.replicate 12 0)),
  .inl (0, .inl (List.replicate 12 0)),
  .inr (4, [.int 0, .ref 89, .ref 90, .int 0, .int 0, .ref 91, .ref 92, .ref 93, .ref 94]),
  .inl (0, .inl (List.replicate 400 0)),
  .inl (0, .inl (List.replicate 400 0)),
  .inl (0, .inl (List.replicate 12 0)),
  .inl (0, .inl (List.replicate 12 0)),
  .inl (0, .inl (List.replicate 12 0)),
  .inl (0, .inl (List.replicate 12 0)),
  .inr (4, [.int 0, .ref 96, .ref 97, .int 0, .int 0, .ref 98, .ref 99, .ref 100, .ref 101]),
  .inl (0, .inl (List.replicate 400 0)),
  .inl (0, .inl (List.replicate 400 0)),
  .inl (0, .inl (List.replicate 12 0)),
  .inl (0, .inl (List.replicate 12 0)),
  .inl (0, .inl (List.replicate 12 0)),
  .inl (0, .inl (List.replicate 12 0)),
  .inr (4, [.int 0, .ref 103, .ref 104, .int 0, .int 0, .ref 105, .ref 106, .ref 107, .ref 108]),
  .inl (0, .inl (List.replicate 400 0)),
  .inl (0, .inl (List.replicate 400 0)),
  .inl (0, .inl (List.replicate 12 0)),
  .inl (0, .inl (List.replicate 12 0)),
  .inl (0, .inl (List.replicate 12 0)),
  .inl (0, .inl (List.replicate 12 0)),
  .inr (4, [.int 0, .ref 110, .ref 111, .int 0, .int 0, .ref 112, .ref 113, .ref 114, .ref 115]),
  .inl (0, .inl (List.replicate 400 0)),
  .inl (0, .inl (List.replicate 400 0)),
  .inl (0, .inl (List.replicate 12 0)),
  .inl (0, .inl (List.replicate 12 0)),
  .inl (0, .inl (List.replicate 12 0)),
  .inl (0, .inl (List.replicate 12 0)),
  .inr (0, [.int 0, .ref 117, .ref 118, .ref 119, .int 0, .ref 120, .int 0, .ref 121, .ref 122, .int (-1), .int 60, .int 2, .int 0, .ref 129, .ref 130]),
  .inl (0, .inl (List.replicate 12 0)),
  .inl (0, .inl (List.replicate 12 0)),
  .inl (0, .inl (List.replicate 12 0)),
  .inl (0, .inl (List.replicate 48 0)),
  .inl (3, .inr (.inr ([some 131, some 138, some 145, some 152, some 159, some 166]))),
  .inr (4, [.int 0, .ref 123, .ref 124, .int 0, .int 0, .ref 125, .ref 126, .ref 127, .ref 128]),
  .inl (0, .inl (List.replicate 400 0)),
  .inl (0, .inl (List.replicate 400 0)),
  .inl (0, .inl (List.replicate 12 0)),
  .inl (0, .inl (List.replicate 12 0)),
  .inl (0, .inl (List.replicate 12 0)),
  .inl (0, .inl (List.replicate 12 0)),
  .inl (0, .inl (List.replicate 8 0)),
  .inl (0, .inl (List.replicate 8 0)),
  .inr (4, [.int 0, .ref 132, .ref 133, .int 0, .int 0, .ref 134, .ref 135, .ref 136, .ref 137]),
  .inl (0, .inl (List.replicate 400 0)),
  .inl (0, .inl (List.replicate 400 0)),
  .inl (0, .inl (List.replicate 12 0)),
  .inl (0, .inl (List.replicate 12 0)),
  .inl (0, .inl (List.replicate 12 0)),
  .inl (0, .inl (List.replicate 12 0)),
  .inr (4, [.int 0, .ref 139, .ref 140, .int 0, .int 0, .ref 141, .ref 142, .ref 143, .ref 144]),
  .inl (0, .inl (List.replicate 400 0)),
  .inl (0, .inl (List.replicate 400 0)),
  .inl (0, .inl (List.replicate 12 0)),
  .inl (0, .inl (List.replicate 12 0)),
  .inl (0, .inl (List.replicate 12 0)),
  .inl (0, .inl (List.replicate 12 0)),
  .inr (4, [.int 0, .ref 146, .ref 147, .int 0, .int 0, .ref 148, .ref 149, .ref 150, .ref 151]),
  .inl (0, .inl (List.replicate 400 0)),
  .inl (0, .inl (List.replicate 400 0)),
  .inl (0, .inl (List.replicate 12 0)),
  .inl (0, .inl (List.replicate 12 0)),
  .inl (0, .inl (List.replicate 12 0)),
  .inl (0, .inl (List.replicate 12 0)),
  .inr (4, [.int 0, .ref 153, .ref 154, .int 0, .int 0, .ref 155, .ref 156, .ref 157, .ref 158]),
  .inl (0, .inl (List.replicate 400 0)),
  .inl (0, .inl (List.replicate 400 0)),
  .inl (0, .inl (List.replicate 12 0)),
  .inl (0, .inl (List.replicate 12 0)),
  .inl (0, .inl (List.replicate 12 0)),
  .inl (0, .inl (List.replicate 12 0)),
  .inr (4, [.int 0, .ref 160, .ref 161, .int 0, .int 0, .ref 162, .ref 163, .ref 164, .ref 165]),
  .inl (0, .inl (List.replicate 400 0)),
  .inl (0, .inl (List.replicate 400 0)),
  .inl (0, .inl (List.replicate 12 0)),
  .inl (0, .inl (List.replicate 12 0)),
  .inl (0, .inl (List.replicate 12 0)),
  .inl (0, .inl (List.replicate 12 0)),
  .inr (4, [.int 0, .ref 167, .ref 168, .int 0, .int 0, .ref 169, .ref 170, .ref 171, .ref 172]),
  .inl (0, .inl (List.replicate 400 0)),
  .inl (0, .inl (List.replicate 400 0)),
  .inl (0, .inl (List.replicate 12 0)),
  .inl (0, .inl (List.replicate 12 0)),
  .inl (0, .inl (List.replicate 12 0)),
  .inl (0, .inl (List.replicate 12 0)),
  .inl (2, .inl ([0, 0])),
  .inr (8, [.ref 175, .int 0]),
  .inl (0, .inl (List.replicate 400 0)),
  .inr (5, [.ref 174, .ref 177, .int (-1), .int 0, .int 0, .int 0, .int 0]),
  .inr (4, [.int 0, .ref 178, .ref 179, .int 0, .int 0, .ref 180, .ref 181, .ref 182, .ref 183]),
  .inl (0, .inl (List.replicate 400 0)),
  .inl (0, .inl (List.replicate 400 0)),
  .inl (0, .inl (List.replicate 12 0)),
  .inl (0, .inl (List.replicate 12 0)),
  .inl (0, .inl (List.replicate 12 0)),
  .inl (0, .inl (List.replicate 12 0)),
  .inr (9, [.ref 1]),
  .inr (3, [.ref 1, .ref 186, .ref 187, .int 0]),
  .inl (1, .inr (.inl (List.replicate 9 0))),
  .inl (1, .inr (.inl (List.replicate 64 0))),
  .inr (1, [.ref 1, .ref 185, .ref 189, .ref 190, .ref 191, .ref 192, .ref 193, .ref 194, .ref 195, .ref 196, .ref 197, .ref 198, .ref 199, .ref 200, .ref 201, .ref 202, .int 0, .ref 203, .int 0]),
  .inl (0, .inl (List.replicate 12 0)),
  .inl (0, .inl (List.replicate 12 0)),
  .inl (0, .inl (List.replicate 8 0)),
  .inl (0, .inl (List.replicate 12 0)),
  .inl (0, .inl (List.replicate 8 0)),
  .inl (0, .inl (List.replicate 8 0)),
  .inl (0, .inl (List.replicate 8 0)),
  .inl (0, .inl (List.replicate 8 0)),
  .inl (0, .inl (List.replicate 8 0)),
  .inl (0, .inl (List.replicate 8 0)),
  .inl (0, .inl (List.replicate 12 0)),
  .inl (0, .inl (List.replicate 12 0)),
  .inl (1, .inr (.inl (List.replicate 8 0))),
  .inl (0, .inl (List.replicate 8 0)),
  .inl (0, .inl (List.replicate 800 0)),
  .inr (1, [.ref 1, .ref 185, .ref 205, .ref 206, .ref 207, .ref 208, .ref 209, .ref 210, .ref 211, .ref 212, .ref 213, .ref 214, .ref 215, .ref 216, .ref 217, .ref 218, .int 0, .ref 219, .int 0]),
  .inl (0, .inl (List.replicate 12 0)),
  .inl (0, .inl (List.replicate 12 0)),
  .inl (0, .inl (List.replicate 8 0)),
  .inl (0, .inl (List.replicate 12 0)),
  .inl (0, .inl (List.replicate 8 0)),
  .inl (0, .inl (List.replicate 8 0)),
  .inl (0, .inl (List.replicate 8 0)),
  .inl (0, .inl (List.replicate 8 0)),
  .inl (0, .inl (List.replicate 8 0)),
  .inl (0, .inl (List.replicate 8 0)),
  .inl (0, .inl (List.replicate 12 0)),
  .inl (0, .inl (List.replicate 12 0)),
  .inl (1, .inr (.inl (List.replicate 8 0))),
  .inl (0, .inl (List.replicate 8 0)),
  .inl (0, .inl (List.replicate 800 0)),
  .inr (7, [.ref 1, .ref 204, .int (-1), .int 0, .int 0, .ref 221]),
  .inl (0, .inl ([0, 0, 0, 0])),
  .inr (6, [.ref 1, .ref 204, .int 0, .int 0, .int 0, .int 0]),
  .inr (2, [.ref 1, .ref 185, .ref 224, .ref 225, .ref 226, .int 0, .int 0, .int 0, .int 0, .int 0, .int 0, .int 0, .ref 227]),
  .inl (0, .inl (List.replicate 12 0)),
  .inl (0, .inl (List.replicate 8 0)),
  .inl (0, .inl (List.replicate 9600 0)),
  .inl (0, .inl (List.replicate 12 0)),
  .inl (0, .inl (List.replicate 8 0)),
  .inl (0, .inl (List.replicate 8 0)),
  .inl (0, .inl (List.replicate 7 0))]
def hp_M : List en_E := [
  .inr (11, [.int 0, .int 0, .ref 232, .ref 233, .ref 234, .ref 235, .int 0, .ref 236, .int 0, .int 0, .int 0, .int 0, .long 0, .int (-1), .int 0, .int 0, .ref 237, .int 0, .ref 238, .ref 239, .int 0, .ref 240, .ref 241, .int 0, .int 0, .ref 242, .ref 243, .int 0, .ref 244, .ref 245, .int 0, .long 0, .long 0, .ref 246, .ref 247, .ref 248, .int 0, .ref 249, .ref 250, .ref 251, .ref 252, .ref 253, .ref 254, .ref 255, .ref 256, .int 0, .int 0, .int 0, .long 0, .ref 257, .ref 258, .int 0]),
  .inl (0, .inl (List.replicate 7 0)),
  .inl (0, .inl ([0, 0, 0, -1, 0, 60, 2] ++ List.replicate 5503 0)),
  .inl (0, .inl (List.replicate 11020 0)),
  .inl (2, .inl ([0, 0])),
  .inl (0, .inl (List.replicate 400 0)),
  .inl (0, .inl (List.replicate 96 0)),
  .inl (0, .inl (List.replicate 400 0)),
  .inl (0, .inl (List.replicate 400 0)),
  .inl (0, .inl (List.replicate 400 0)),
  .inl (0, .inl (List.replicate 400 0)),
  .inl (1, .inr (.inl ([408612, 777297172, 8441477, 20579780, 398548, 446125701, 24159891, 674919554696, 52595]))),
  .inl (1, .inr (.inl ([6605428, 6309, 67155]))),
  .inl (1, .inr (.inl (List.replicate 13 0))),
  .inl (1, .inr (.inl (List.replicate 400 0))),
  .inl (0, .inl (List.replicate 12 0)),
  .inl (0, .inl (List.replicate 12 0)),
  .inl (0, .inl (List.replicate 8 0)),
  .inl (0, .inl (List.replicate 13 0)),
  .inl (0, .inl (List.replicate 8 0)),
  .inl (0, .inl (List.replicate 8 0)),
  .inl (0, .inl (List.replicate 8 0)),
  .inl (0, .inl (List.replicate 8 0)),
  .inl (0, .inl (List.replicate 8 0)),
  .inl (2, .inl (List.replicate 8 0)),
  .inl (0, .inl (List.replicate 800 0)),
  .inl (0, .inl (List.replicate 8 0)),
  .inl (0, .inl (List.replicate 8 0))]

def en_eqR {α : Type} (q : α → α → Bool) : List α → List α → Bool
  | [], [] => true
  | x :: r, y :: t => bif q x y then en_eqR q r t else false
  | _, _ => false
theorem en_eqR_eq {α : Type} {q : α → α → Bool} (hq : ∀ x y, q x y = true → x = y) : ∀ {x y : List α}, en_eqR q x y = true → x = y
  | [], [], h => rfl
  | [], y :: t, h => by cases h
  | x :: r, [], h => by cases h
  | x :: r, y :: t, h => by
    unfold en_eqR at h
    cases hb : q x y with
    | true =>
      rw [hb] at h
      rw [hq _ _ hb, en_eqR_eq hq h]
    | false =>
      rw [hb] at h
      cases h
def en_eqI (x y : Int32) : Bool := decide (x = y)
def en_eqJ (x y : Int64) : Bool := decide (x = y)
def en_eqO (x y : Option Nat) : Bool := decide (x = y)
def en_eqV (x y : Value) : Bool := decide (x = y)
def en_eqA (x y : en_A) : Bool := match x, y with
  | .inl a, .inl b => en_eqR en_eqI a b
  | .inr (.inl a), .inr (.inl b) => en_eqR en_eqJ a b
  | .inr (.inr a), .inr (.inr b) => en_eqR en_eqO a b
  | _, _ => false
def en_eqE (x y : en_E) : Bool := match x, y with
  | .inl a, .inl b => Nat.beq a.1 b.1 && en_eqA a.2 b.2
  | .inr a, .inr b => Nat.beq a.1 b.1 && en_eqR en_eqV a.2 b.2
  | _, _ => false
def en_eqL : List en_E → List en_E → Bool := en_eqR en_eqE
theorem en_eqA_eq {x y : en_A} (h : en_eqA x y = true) : x = y := by
  unfold en_eqA at h
  split at h
  · rw [en_eqR_eq (fun x y h => of_decide_eq_true h) h]
  · rw [en_eqR_eq (fun x y h => of_decide_eq_true h) h]
  · rw [en_eqR_eq (fun x y h => of_decide_eq_true h) h]
  · cases h
theorem en_eqE_eq {x y : en_E} (h : en_eqE x y = true) : x = y := by
  unfold en_eqE at h
  split at h
  · rename_i a b
    simp only [Bool.and_eq_true] at h
    obtain ⟨a1, a2⟩ := a
    obtain ⟨b1, b2⟩ := b
    have h1 : a1 = b1 := Nat.eq_of_beq_eq_true h.1
    have h2 : a2 = b2 := en_eqA_eq h.2
    rw [h1, h2]
  · rename_i a b
    simp only [Bool.and_eq_true] at h
    obtain ⟨a1, a2⟩ := a
    obtain ⟨b1, b2⟩ := b
    have h1 : a1 = b1 := Nat.eq_of_beq_eq_true h.1
    have h2 : a2 = b2 := en_eqR_eq (fun x y h => of_decide_eq_true h) h.2
    rw [h1, h2]
  · cases h
theorem en_eqL_eq {x y : List en_E} (h : en_eqL x y = true) : x = y := en_eqR_eq (fun x y h => en_eqE_eq h) h
theorem hp_t1 : (match en_run en_IS en_BS 8 2000 103 [.ref 0] ([.inr (10, en_dflt 10)], 18) with | some w => w.1.isNone && en_eqL w.2.1 hp_X && decide (w.2.2 = 31312) | none => false) = true := by decide +kernel
theorem hp_t2 : (match en_run en_IS en_BS 8 2000 158 [.ref 231] (hp_X ++ [.inr (11, en_dflt 11)], 31364) with | some w => w.1.isNone && en_eqL w.2.1 (hp_X ++ hp_M) && decide (w.2.2 = 51333) | none => false) = true := by decide +kernel
