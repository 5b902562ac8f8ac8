theorem lv_zero {f : Nat → Int32} {n : Nat} : ∀ {m : Nat}, n ≤ m → (∀ i, n ≤ i → i < m → f i = 0) → lv f m = lv f n
  | 0, h, _ => by have e : n = 0 := by omega
                  rw [e]
  | m + 1, h, hz => by
    rcases Nat.lt_or_ge m n with q | q
    · have e : n = m + 1 := by omega
      rw [e]
    · rw [lv, hz m q (by omega), lv_zero q (fun i a b => hz i a (by omega))]
      have e : (0 : Int32).toInt = 0 := rfl
      rw [e]; omega
/-- a part: its size, its rows, their numbers -/
def Pt (p : Nat) (X : AX) (T B : Int) : Prop := ∃ n : Nat, 2 ≤ n ∧ n ≤ 24 ∧ xI X p 3 = nI n ∧ lg (xI X (p + 1)) 24 ∧ lg (xI X (p + 2)) 24 ∧ (∀ i, n ≤ i → i < 24 → xI X (p + 1) i = 0 ∧ xI X (p + 2) i = 0) ∧ lv (xI X (p + 1)) n = T ∧ lv (xI X (p + 2)) n = B ∧ 0 ≤ T ∧ T < B ∧ B < (1073741824 : Int) ^ (n - 1)
/-- nothing else is changed -/
def Fr (p : Nat) (X X' : AX) : Prop := xS X' = xS X ∧ xJ X' = xJ X ∧ xR X' = xR X ∧ xN X' = xN X ∧ ∀ i, i ≠ p → i ≠ p + 1 → i ≠ p + 2 → i ≠ p + 3 → xI X' i = xI X i
theorem Fr.trans {p : Nat} {X Y Z : AX} (h1 : Fr p X Y) (h2 : Fr p Y Z) : Fr p X Z := ⟨h2.1.trans h1.1, h2.2.1.trans h1.2.1, h2.2.2.1.trans h1.2.2.1, h2.2.2.2.1.trans h1.2.2.2.1, fun i a b c d => (h2.2.2.2.2 i a b c d).trans (h1.2.2.2.2 i a b c d)⟩
