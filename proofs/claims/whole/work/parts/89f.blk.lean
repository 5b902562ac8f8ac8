/-! the reference's copy: blocks of cells -/
section Blk
variable {X : AX} {K : Option AV → AX → Prop} {KX : String → AX → Prop} {α : Type}
def blk (f : Nat → α) (m c e n : Nat) : Nat → α := fun j => if m * e ≤ j ∧ j < m * e + n then f (m * c + (j - m * e)) else f j
theorem u2_blk (f : Nat → Nat → α) (i : Nat) (g : Nat → α) (k : Nat) (v : α) : u2 (u1 f i g) i k v = u1 f i (stf g k v) := by
  funext a b
  unfold u2 u1 stf
  by_cases ha : a = i
  · by_cases hb : b = k <;> simp [ha, hb]
  · simp [ha]
theorem blk_src (f : Nat → α) {m c e n : Nat} (hne : c ≠ e) (hn : n < m) : blk f m c e n (m * c + n) = f (m * c + n) := by
  unfold blk
  refine if_neg fun ⟨q1, q2⟩ => ?_
  rcases Nat.lt_or_gt_of_ne hne with w | w
  · have := Nat.mul_le_mul_left m w
    rw [Nat.mul_succ] at this
    omega
  · have := Nat.mul_le_mul_left m w
    rw [Nat.mul_succ] at this
    omega
theorem blk_S (f : Nat → α) {m c e n : Nat} : stf (blk f m c e n) (m * e + n) (f (m * c + n)) = blk f m c e (n + 1) := by
  funext j
  unfold stf blk
  by_cases h : j = m * e + n
  · subst h
    rw [if_pos rfl, if_pos ⟨by omega, by omega⟩]
    congr 1; omega
  · rw [if_neg h]
    by_cases h2 : m * e ≤ j ∧ j < m * e + n
    · rw [if_pos h2, if_pos ⟨h2.1, by omega⟩]
    · rw [if_neg h2, if_neg (fun q => h2 ⟨q.1, by omega⟩)]
theorem blk_0 (f : Nat → α) (m c e : Nat) : blk f m c e 0 = f := by
  funext j
  unfold blk
  exact if_neg (fun q => by omega)
theorem ixm {mm : Int32} {m c n : Nat} (hm : mm.toInt = m) (hm2 : m ≤ 3840) (hc : c < 5) (hn : n < m) : (mm * nI c + nI n).toInt = ((m * c + n : Nat) : Int) ∧ (mm * nI c + nI n).toNatClampNeg = m * c + n := by
  have hb : m * c ≤ 3840 * 5 := Nat.mul_le_mul hm2 (by omega)
  have e1 : (nI c).toInt = c := nI_toInt (by omega)
  have e2 : (nI n).toInt = n := nI_toInt (by omega)
  have e3 : (mm * nI c).toInt = ((m * c : Nat) : Int) := by
    rw [n_mul] <;> rw [hm, e1, ← Int.natCast_mul] <;> omega
  have e4 : (mm * nI c + nI n).toInt = ((m * c + n : Nat) : Int) := by
    rw [n_add] <;> rw [e3, e2] <;> omega
  have e5 := clp (x := mm * nI c + nI n) (by omega)
  exact ⟨e4, by omega⟩
theorem ixm_in {mm : Int32} {m c n : Nat} (hm : mm.toInt = m) (hm2 : m ≤ 3840) (hc : c < 5) (hn : n < m) : vp_in (mm * nI c + nI n) (m * 5) := by
  refine vp_in_iff.mpr ?_
  rw [(ixm hm hm2 hc hn).1]
  have hb : m * c ≤ m * 4 := Nat.mul_le_mul_left m (by omega)
  constructor <;> omega
theorem s_cp81 {c e : Nat} (hc : c < 5) (he : e < 5) (hne : c ≠ e) (hbl : ∀ j, j < 12 → bl (xI X 81 (12 * c + j))) (h : r_X12_copy tb0 K KX 300 [some (vR (some 42)), some (vI (nI c)), some (vI (nI e)), some (vI (nI 12))] [] (xS X, u1 (xI X) 81 (blk (xI X 81) 12 c e 12), xJ X, xR X, xN X) 0 0) : ∀ r n, n + r = 12 → r_X12_copy tb0 K KX 266 [some (vR (some 42)), some (vI (nI c)), some (vI (nI e)), some (vI (nI n))] [] (xS X, u1 (xI X) 81 (blk (xI X 81) 12 c e n), xJ X, xR X, xN X) 0 0 := by
  intro r
  induction r with
  | zero =>
    intro n hn
    obtain rfl : n = 12 := by omega
    exact e_X12_copy_266 ⟨fun _ => h, fun q => absurd (by decide) q⟩
  | succ r ih =>
    intro n hn
    refine e_X12_copy_266 ⟨fun q => ?_, fun _ => ⟨ixm_in (m := 12) (by decide) (by decide) hc (by omega), ixm_in (m := 12) (by decide) (by decide) he (by omega), ?_, ?_⟩⟩
    · have := Int32.le_iff_toInt_le.mp q
      rw [nI_toInt (by omega)] at this
      have e12 : (12 : Int32).toInt = 12 := by decide
      omega
    · rw [(ixm (mm := 12) (m := 12) (c := c) (n := n) (by decide) (by decide) hc (by omega)).2]
      show blk (xI X 81) 12 c e n (12 * c + n) = 0 ∨ blk (xI X 81) 12 c e n (12 * c + n) = 1
      rw [blk_src _ hne (by omega)]
      exact hbl _ (by omega)
    · rw [(ixm (mm := 12) (m := 12) (c := c) (n := n) (by decide) (by decide) hc (by omega)).2, (ixm (mm := 12) (m := 12) (c := e) (n := n) (by decide) (by decide) he (by omega)).2]
      have z := ih (n + 1) (by omega)
      rw [← blk_S, ← u2_blk, ← blk_src (xI X 81) hne (show n < 12 by omega), ← nI_1] at z
      exact z
end Blk
