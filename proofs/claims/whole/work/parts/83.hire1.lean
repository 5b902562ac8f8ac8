/-! hire: whether all seals are whole; begins as a picture -/
section Hire1
variable {S : Nat → Nat × Nat} {F : Nat → Nat → Int32} {J : Nat → Nat → Int64} {R : Nat → Nat → Option Nat} {nn : Nat} {K : Option AV → AX → Prop} {KX : String → AX → Prop}
/-- y says whether the first i of a row are all other than 0 -/
def allW (f : Nat → Int32) (i : Nat) (y : Int32) : Prop := (y = 1 ∧ ∀ j, j < i → ¬ f j = 0) ∨ (y = 0 ∧ ∃ j, j < i ∧ f j = 0)
theorem hire_loop {l1 l2 l3 l4 : Int32} {q : Nat} (hq : F 42 6 = nI q) (h40 : q ≤ 40) (hK : ∀ y, allW (F 49) q y → K (some (vI (F 58 0))) (S, u2 F 42 19 y, J, R, nn)) :
    ∀ (r i : Nat) (y : Int32), i + r = q → allW (F 49) i y → r_X12_hire tb0 K KX 126 [some (vR (some 42)), some (vI l1), some (vI l2), some (vI l3), some (vI l4), some (vI (nI i))] [] (S, u2 F 42 19 y, J, R, nn) 0 0
  | 0, i, y, hi, hy => by
    have e : i = q := by omega
    subst e
    refine e_X12_hire_126 ⟨fun _ => e_X12_hire_167 ⟨by unfold vp_in; decide, hK y hy⟩, fun c => absurd ?_ c⟩
    show F 42 6 ≤ nI i
    rw [hq]; exact nI_le (Nat.le_refl _) (by omega)
  | r + 1, i, y, hi, hy => by
    refine e_X12_hire_126 ⟨fun c => ?_, fun _ => ⟨fun c => e_X12_hire_157 (e_X12_hire_158 ⟨Or.inl rfl, ?_⟩), fun c => ⟨vp_in_nI (by omega) (by decide), ?_⟩⟩⟩
    · have c' : F 42 6 ≤ nI i := c
      rw [hq] at c'; exact absurd c' (nI_ge (by omega) (by omega))
    · have c' : y = 0 := c
      show r_X12_hire tb0 K KX 126 _ [] (S, u2 (u2 F 42 19 y) 42 19 0, J, R, nn) 0 0
      rw [u2_2, nI_1]
      refine hire_loop hq h40 hK r (i + 1) 0 (by omega) (Or.inr ⟨rfl, ?_⟩)
      rcases hy with ⟨z, -⟩ | ⟨-, j, hj, z⟩
      · rw [z] at c'; exact absurd c' (by decide)
      · exact ⟨j, by omega, z⟩
    · have c' : ¬ y = 0 := c
      rw [nI_clamp (by omega)]
      have hy1 : ∀ j, j < i → ¬ F 49 j = 0 := by
        rcases hy with ⟨-, z⟩ | ⟨z, -⟩
        · exact z
        · exact absurd z c'
      refine ⟨fun z => e_X12_hire_157 (e_X12_hire_158 ⟨Or.inl rfl, ?_⟩), fun z => e_X12_hire_158 ⟨Or.inr rfl, ?_⟩⟩
      · show r_X12_hire tb0 K KX 126 _ [] (S, u2 (u2 F 42 19 y) 42 19 0, J, R, nn) 0 0
        rw [u2_2, nI_1]
        exact hire_loop hq h40 hK r (i + 1) 0 (by omega) (Or.inr ⟨rfl, i, by omega, z⟩)
      · show r_X12_hire tb0 K KX 126 _ [] (S, u2 (u2 F 42 19 y) 42 19 1, J, R, nn) 0 0
        rw [u2_2, nI_1]
        exact hire_loop hq h40 hK r (i + 1) 1 (by omega) (Or.inl ⟨rfl, lt_s hy1 z⟩)
theorem x_hire126 {l1 l2 l3 l4 : Int32} {q : Nat} (hq : F 42 6 = nI q) (h40 : q ≤ 40) (hK : ∀ y, allW (F 49) q y → K (some (vI (F 58 0))) (S, u2 F 42 19 y, J, R, nn)) : r_X12_hire tb0 K KX 126 [some (vR (some 42)), some (vI l1), some (vI l2), some (vI l3), some (vI l4), some (vI 0)] [] (S, u2 F 42 19 1, J, R, nn) 0 0 :=
  hire_loop hq h40 hK q 0 1 (by omega) (Or.inl ⟨rfl, fun j hj => absurd hj (Nat.not_lt_zero _)⟩)
theorem allW_uniq {f g : Nat → Int32} {i : Nat} {y z : Int32} (h : ∀ j, j < i → f j = g j) (hy : allW f i y) (hz : allW g i z) : y = z := by
  rcases hy with ⟨a, b⟩ | ⟨a, j, hj, b⟩
  · rcases hz with ⟨c, d⟩ | ⟨c, j, hj, d⟩
    · rw [a, c]
    · exact absurd ((h j hj).trans d) (b j hj)
  · rcases hz with ⟨c, d⟩ | ⟨c, d⟩
    · exact absurd ((h j hj).symm.trans b) (d j hj)
    · rw [a, c]
/-- the reference has begun in column c with the tariff k of kind q -/
def Bgn (c k q : Nat) (zone tm : Int32) (X X' : AX) : Prop := xS X' = xS X ∧ xN X' = xN X ∧ xR X' = xR X ∧ (∀ i, (i < 59 ∨ 73 < i) → (i < 78 ∨ 81 < i) → xI X' i = xI X i) ∧ (∀ i, i < 74 ∨ 77 < i → xJ X' i = xJ X i) ∧ (∀ i j, j ≠ c → 59 ≤ i → i ≤ 80 → xI X' i j = xI X i j) ∧ (∀ i j, j ≠ c → xJ X' i j = xJ X i j) ∧ (∀ j, (j < 12 * c ∨ 12 * c + 12 ≤ j) → xI X' 81 j = xI X 81 j) ∧
  xI X' 59 c = 0 ∧ xI X' 60 c = zone ∧ xI X' 61 c = -1 ∧ xI X' 62 c = tm ∧ xI X' 63 c = nI k ∧ xI X' 64 c = nI k ∧ xI X' 65 c = xI X 42 1 ∧ xI X' 66 c = xI X 42 2 ∧ xI X' 67 c = 0 ∧ xI X' 68 c = xI X 46 (15 * k + 1) - 1 ∧ xI X' 69 c = 0 ∧ xI X' 70 c = 0 ∧ xI X' 72 c = 0 ∧ xI X' 73 c = 0 ∧ xI X' 78 c = 1 ∧ xI X' 79 c = 0 ∧ xI X' 80 c = 0 ∧
  xJ X' 74 c = 0 ∧ xJ X' 75 c = (xI X 46 (15 * k + 0)).toInt64 + (eOf q (xI X 46 (15 * k + 14))).toInt64 ∧ xJ X' 76 c = (eOf q (xI X 46 (15 * k + 14))).toInt64 ∧ xJ X' 77 c = 0 ∧ ∀ i, i < 12 → xI X' 81 (12 * c + i) = if i = k ∧ q = 4 then 1 else 0
end Hire1
