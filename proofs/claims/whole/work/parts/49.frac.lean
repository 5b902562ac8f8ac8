/-! sums of parts -/
def bnd (x : Int32) (a b : Int) : Prop := a ≤ x.toInt ∧ x.toInt ≤ b
def bl (x : Int32) : Prop := x = 0 ∨ x = 1
/-- a sum of parts as one part -/
def fD (g : Nat → Int64) : Nat → Int
  | 0 => 1
  | n + 1 => fD g n * (g n).toInt
def fN' (f g : Nat → Int64) : Nat → Int
  | 0 => 0
  | n + 1 => fN' f g n * (g n).toInt + fD g n * (f n).toInt
def cOv (c : Nat) (X : AX) : Nat → Int64 := fun k => xJ X 85 (80 * c + k)
def cUn (c : Nat) (X : AX) : Nat → Int64 := fun k => xJ X 86 (80 * c + k)
def goodP (f g : Nat → Int64) (p : Nat) : Prop := ∀ k, k < p → 0 ≤ (f k).toInt ∧ (f k).toInt < (g k).toInt ∧ (g k).toInt ≤ 200000000
