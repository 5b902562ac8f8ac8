/-! what joins class and reference -/
/-- script, static rows, room -/
def rlS (L : Nat) (xs : Nat → Int32) (X : AX) : Prop := xS X 0 = (1, L) ∧ xI X 0 = xs ∧ (xS X 1 = (1, 15) ∧ xI X 1 = aFst) ∧ (xS X 2 = (1, 15) ∧ xI X 2 = aLst) ∧ (xS X 3 = (1, 15) ∧ xI X 3 = aMst) ∧ 92 ≤ xN X
def rlW (X : AX) : Prop := xI X 42 1 = xI X 4 0 ∧ bnd (xI X 4 0) 100 10000 ∧ xI X 42 2 = xI X 4 1 ∧ bnd (xI X 4 1) 1 200
def rlR (X : AX) : Prop := (∀ r, r < 64 → xI X 43 r = xI X 7 r ∧ bnd (xI X 7 r) (-1) 60) ∧ ∀ j, j < 3840 → xI X 44 j = xI X 6 j ∧ bnd (xI X 6 j) 0 500
/-- a kind's class -/
def kcl (q : Nat) : Nat := if q = 0 then 11 else if q = 1 then 16 else if q = 2 then 12 else if q = 3 then 13 else 10
def rlT1 (X : AX) (k d : Nat) : Prop := xR X 8 k = some d ∧ 92 ≤ d ∧ d + 1 < xN X ∧ (∃ q, q < 5 ∧ xI X 45 k = nI q ∧ xS X d = (kcl q, 1)) ∧ xS X (d + 1) = (1, 15) ∧ xI X d 0 = nI k ∧ ∀ j, j < 15 → xI X (d + 1) j = xI X 46 (15 * k + j) ∧ bnd (xI X (d + 1) j) (aLst j).toInt (aMst j).toInt
def rlT (n : Nat) (X : AX) : Prop := xI X 4 4 = nI n ∧ xI X 42 5 = nI n ∧ n ≤ 12 ∧ ∀ k, k < n → ∃ d, rlT1 X k d
def rlL (n s : Nat) (X : AX) : Prop := ∀ j, j < 12 → xI X 47 j = xI X 9 j ∧ xI X 48 j = xI X 10 j ∧ bnd (xI X 9 j) 0 2 ∧ ((xI X 9 j).toInt = 1 → bnd (xI X 10 j) 0 ((n : Int) - 1)) ∧ ((xI X 9 j).toInt = 2 → bnd (xI X 10 j) 0 ((s : Int) - 1))
def rlE (s : Nat) (X : AX) : Prop := xI X 11 2 = nI s ∧ xI X 42 6 = nI s ∧ s ≤ 40 ∧ ∀ j, j < 40 → xI X 49 j = xI X 12 j ∧ bl (xI X 12 j) ∧ xI X 50 j = xI X 13 j
def sumI (f : Nat → Int32) : Nat → Int
  | 0 => 0
  | n + 1 => sumI f n + (f n).toInt
def rlK (l : Nat) (X : AX) : Prop := xI X 34 2 = nI l ∧ xI X 42 25 = nI l ∧ l ≤ 20 ∧ (∀ j, j < l → xI X 56 j = xI X 35 j ∧ bnd (xI X 35 j) 0 60000 ∧ xI X 57 j = xI X 36 j ∧ bnd (xI X 36 j) 1 3840) ∧ (xI X 34 3).toInt = sumI (xI X 36) l ∧ (xI X 34 3).toInt ≤ 3840
/-- the hire's numbers outside the meter -/
def rlH (t h : Nat) (X : AX) : Prop := xI X 4 9 = nI h ∧ xI X 42 7 = nI h ∧ h ≤ t ∧ xI X 42 14 = xI X 14 6 ∧ bl (xI X 14 6) ∧ ((xI X 14 6).toInt = 1 → 0 < h) ∧ ((xI X 14 6).toInt = 0 → (xI X 42 15).toInt = (if 0 < h then 1 else 0)) ∧ xI X 42 19 = xI X 14 10 ∧ bl (xI X 14 10) ∧ xI X 42 18 = xI X 14 9 ∧
  (0 < h → xI X 14 5 = nI (h - 1) ∧ xI X 58 0 = nI (h - 1) ∧ xI X 60 0 = xI X 14 7 ∧ xI X 61 0 = xI X 14 8 ∧ xI X 79 0 = xI X 14 11 ∧ bl (xI X 14 11) ∧ xI X 80 0 = xI X 14 12 ∧ bl (xI X 14 12))
/-- how many hires have ended -/
def nEnd (h : Nat) (X : AX) : Nat := if (xI X 14 6).toInt = 0 then h else h - 1
/-- receipts -/
def rlC (h : Nat) (X : AX) : Prop := ∃ rid len : Nat, xR X 4 10 = some rid ∧ (rid = 23 ∨ 92 ≤ rid) ∧ rid < xN X ∧ shp tb0 X rid = (1, len) ∧ 64 ≤ len ∧ (len = 64 ∨ len = 128 ∨ len = 256 ∨ len = 512 ∨ len = 1024 ∨ len = 2048) ∧ 4 * nEnd h X ≤ len ∧
  (∀ q, q < nEnd h X → xI X rid (4 * q) = xI X 51 q ∧ xI X rid (4 * q + 1) = xI X 52 q ∧ xI X rid (4 * q + 2) = xI X 53 q ∧ xI X rid (4 * q + 3) = xI X 54 q ∧ bl (xI X 54 q)) ∧
  ∀ q, q < 4000 → xI X 55 q = if q < nEnd h X then 1 else 0
/-- a meter's plain numbers -/
def mNum (t m c : Nat) (X : AX) : Prop := xI X 62 c = xI X m 2 ∧ bnd (xI X m 2) 0 86399 ∧ xI X 66 c = xI X m 3 ∧ bnd (xI X m 3) 1 200 ∧ xI X 59 c = xI X m 4 ∧ bnd (xI X m 4) 0 3840 ∧ bnd (xI X 65 c) 1 10000 ∧ xJ X m 5 = xJ X 74 c * (xI X 65 c).toInt64 ∧ xJ X 75 c = xJ X m 6 ∧ xI X 67 c = xI X m 7 ∧ xI X 68 c = xI X m 8 ∧
  xJ X 76 c = (xI X m 9).toInt64 ∧ bnd (xI X m 9) 0 (10000 * ((t : Int) + 1)) ∧ xJ X 77 c = (xI X m 10).toInt64 ∧ bnd (xI X m 10) 0 (10000 * ((t : Int) + 1)) ∧ xI X 70 c = xI X m 12 ∧ bnd (xI X m 12) 0 50 ∧ xI X 69 c = xI X m 13 ∧ 0 ≤ (xI X m 13).toInt ∧ (xI X m 13).toInt ≤ (xI X m 4).toInt ∧ bl (xI X m 14) ∧ 0 ≤ (xI X m 7).toInt ∧ (xI X m 7).toInt ≤ 501 * (xI X m 4).toInt
/-- its tariff, and the first one -/
def mTar (n m c : Nat) (X : AX) : Prop := bnd (xI X 64 c) 0 ((n : Int) - 1) ∧ xR X m 1 = xR X 8 (xI X 64 c).toNatClampNeg ∧ bnd (xI X 63 c) 0 ((n : Int) - 1)
def bitc (x : Int32) (k : Nat) : Bool := x.toBitVec.getLsbD k
/-- tariffs of calls that have brought their extra -/
def mCall (n m c : Nat) (X : AX) : Prop := ∀ k, k < 12 → (n ≤ k → bitc (xI X m 11) k = false ∧ xI X 81 (12 * c + k) = 0) ∧ (k < n → xI X 45 k = 4 → xI X 81 (12 * c + k) = if bitc (xI X m 11) k = true then 1 else 0) ∧ bl (xI X 81 (12 * c + k))
/-- hands -/
def hToF (a : Int32) (f : Nat → Int32) : Nat → Int32
  | 0 => a
  | k + 1 => f k
def hTo (c : Nat) (X : AX) : Nat → Int32 := hToF (xI X 63 c) (fun k => xI X 84 (50 * c + k))
def mHand (n m c : Nat) (X : AX) : Prop := (∀ k, k < (xI X m 12).toNatClampNeg → xI X 83 (50 * c + k) = xI X 21 k ∧ bnd (xI X 84 (50 * c + k)) 0 ((n : Int) - 1) ∧ xR X 22 k = xR X 8 (xI X 84 (50 * c + k)).toNatClampNeg ∧ ¬ hTo c X (k + 1) = hTo c X k) ∧ xI X 64 c = hTo c X (xI X m 12).toNatClampNeg
def mDark (m c : Nat) (X : AX) : Prop := ∀ k, k < (xI X m 13).toNatClampNeg → xI X 82 (3840 * c + k) = xI X 20 k
/-- the part that is begun: the class's T / B, the reference's sum less its wholes -/
def mFrac (m c : Nat) (T B : Int) (X : AX) : Prop := Pt (m + 1) X T B ∧ B < 2 ^ 600 ∧ ∃ p : Nat, p ≤ 80 ∧ xI X 73 c = nI p ∧ goodP (cOv c X) (cUn c X) p ∧ fN' (cOv c X) (cUn c X) p * B = ((xI X 72 c).toInt * B + T) * fD (cUn c X) p ∧ bnd (xI X 72 c) 0 80
/-- the denominators that the tariffs can bring -/
def nOf (f : Nat → Int32) (k j : Nat) : Int := (f (15 * k + j)).toInt
def dSet (f : Nat → Int32) (w : Int) (j : Nat) : Int := if j % 3 = 0 then nOf f (j / 3) 3 * w else if j % 3 = 1 then nOf f (j / 3) 10 * w else nOf f (j / 3) 4
def dPrd (f : Nat → Int32) : Nat → Int
  | 0 => 1
  | k + 1 => dPrd f k * (nOf f k 3 * nOf f k 10 * nOf f k 4)
/-- while the meter goes on: parts are apart, and come of the tariffs -/
def mDen (n m c : Nat) (B : Int) (X : AX) : Prop := B ∣ (xI X m 3).toInt * dPrd (xI X 46) n ∧ (∀ i, i < (xI X 73 c).toNatClampNeg → ∃ j, j < 3 * n ∧ (cUn c X i).toInt = dSet (xI X 46) (xI X m 3).toInt j) ∧ ∀ i j, i < j → j < (xI X 73 c).toNatClampNeg → ¬ cUn c X i = cUn c X j
def mAll (t n m c : Nat) (X : AX) : Prop := mNum t m c X ∧ mTar n m c X ∧ mCall n m c X ∧ mHand n m c X ∧ mDark m c X ∧ ∃ T B, mFrac m c T B X ∧ mDen n m c B X
/-- the hire's meter, its image, what has ended, what should be -/
def rlG (t n h : Nat) (X : AX) : Prop :=
  ((xI X 14 6).toInt = 1 → mAll t n 15 0 X ∧ xI X 66 0 = xI X 4 1 ∧ xI X 65 0 = xI X 4 0 ∧ xI X 78 0 = xI X 15 14 ∧ xR X 14 4 = xR X 8 (xI X 63 0).toNatClampNeg ∧ xI X 79 0 = 0) ∧
  ((xI X 14 6).toInt = 0 → 0 < h → mNum t 15 0 X ∧ mTar n 15 0 X ∧ mHand n 15 0 X ∧ mDark 15 0 X ∧ (∃ T B, mFrac 15 0 T B X) ∧ xR X 14 4 = xR X 8 (xI X 63 0).toNatClampNeg ∧
    xI X 63 2 = xI X 63 0 ∧ xI X 60 2 = xI X 60 0 ∧ xI X 61 2 = xI X 61 0 ∧ xI X 62 2 = xI X 62 0 ∧ xI X 59 2 = xI X 59 0 ∧ xI X 70 2 = xI X 70 0 ∧ xJ X 77 2 = xJ X 77 0 ∧ xJ X 75 2 = xJ X 75 0 ∧ xI X 80 2 = xI X 80 0 ∧ True ∧ True ∧
    ∀ k, k < 50 → xI X 83 (50 * 2 + k) = xI X 83 (50 * 0 + k) ∧ xI X 84 (50 * 2 + k) = xI X 84 (50 * 0 + k)) ∧
  (bl (xI X 42 16) ∧ (xI X 42 16 = 0 → (xI X 4 12).toInt = -1) ∧ (xI X 42 16 = 1 → xI X 4 12 = xI X 58 1 ∧ bnd (xI X 4 12) 0 ((h : Int) - 1)) ∧
    ((xI X 14 6).toInt = 1 → xI X 4 12 = xI X 14 5 → mAll t n 24 1 X ∧ xI X 66 1 = xI X 4 1 ∧ xI X 65 1 = xI X 4 0 ∧ xI X 78 1 = xI X 24 14 ∧ xI X 63 1 = xI X 63 0 ∧ xI X 60 1 = xI X 60 0 ∧ xI X 61 1 = xI X 61 0 ∧ xI X 79 1 = xI X 79 0 ∧ xI X 80 1 = xI X 80 0 ∧ (xI X 24 12).toInt ≤ (xI X 15 12).toInt ∧ (xI X 24 13).toInt ≤ (xI X 15 13).toInt)) ∧
  (xI X 42 17 = xI X 4 16 ∧ bl (xI X 4 16) ∧ (xI X 4 16 = 1 → (xI X 67 4 = xI X 37 7 ∧ bnd (xI X 37 7) 0 2000000) ∧ ∃ T B, mFrac 37 4 T B X))
def Rel (L : Nat) (xs : Nat → Int32) (t n s h l : Nat) (X : AX) : Prop := rlS L xs X ∧ rlW X ∧ rlR X ∧ rlT n X ∧ rlL n s X ∧ rlE s X ∧ rlK l X ∧ rlH t h X ∧ rlC h X ∧ rlG t n h X
/-- the end of a call: what was thrown, or the answer -/
def FinI (L : Nat) (xs : Nat → Int32) (t : Nat) (c b : Int32) (X : AX) : Prop := (∃ n s h l, Rel L xs (t + 1) n s h l X) ∧ xI X 42 0 = c ∧ (c = 0 → xJ X 91 0 = b.toInt64)
def FinL (L : Nat) (xs : Nat → Int32) (t : Nat) (c : Int32) (b : Int64) (X : AX) : Prop := (∃ n s h l, Rel L xs (t + 1) n s h l X) ∧ xI X 42 0 = c ∧ (c = 0 → xJ X 91 0 = b)
def SamS (X X1 : AX) : Prop := xS X1 0 = xS X 0 ∧ xI X1 0 = xI X 0
theorem SamS.mk {X X1 : AX} (h1 : xS X1 0 = xS X 0) (h2 : xI X1 0 = xI X 0) : SamS X X1 := ⟨h1, h2⟩
