/-! the reference's copy: the other blocks -/
section Blk2
variable {X : AX} {K : Option AV → AX → Prop} {KX : String → AX → Prop} {α : Type}
theorem u2_u1c (f : Nat → Nat → α) {i i' : Nat} (hi : i ≠ i') (g g2 : Nat → α) (k : Nat) (v : α) : u2 (u1 (u1 f i g) i' g2) i k v = u1 (u1 f i (stf g k v)) i' g2 := by
  funext a b
  unfold u2 u1 stf
  by_cases ha : a = i
  · subst ha
    by_cases hb : b = k <;> simp [hi, hb]
  · simp [ha]
theorem nIclamp {c : Nat} (h : c < 5000) : (nI c).toNatClampNeg = c := by
  have e := nI_toInt (n := c) (by omega)
  have := clp (x := nI c) (by omega)
  omega
theorem s_cp82 {c e N : Nat} (hc : c < 5) (he : e < 5) (hne : c ≠ e) (hN : N ≤ 3840) (h69 : xI X 69 c = nI N) (h : r_X12_copy tb0 K KX 342 [some (vR (some 42)), some (vI (nI c)), some (vI (nI e)), some (vI (nI N))] [] (xS X, u1 (xI X) 82 (blk (xI X 82) 3840 c e N), xJ X, xR X, xN X) 0 0) : ∀ r n, n + r = N → r_X12_copy tb0 K KX 302 [some (vR (some 42)), some (vI (nI c)), some (vI (nI e)), some (vI (nI n))] [] (xS X, u1 (xI X) 82 (blk (xI X 82) 3840 c e n), xJ X, xR X, xN X) 0 0 := by
  intro r
  induction r with
  | zero =>
    intro n hn
    obtain rfl : n = N := by omega
    refine e_X12_copy_302 ⟨vp_in_nI (by omega) (by decide), fun _ => h, fun q => absurd ?_ q⟩
    rw [nIclamp (by omega)]
    show xI X 69 c ≤ _
    rw [h69]
    exact Int32.le_iff_toInt_le.mpr (Int.le_refl _)
  | succ r ih =>
    intro n hn
    refine e_X12_copy_302 ⟨vp_in_nI (by omega) (by decide), fun q => ?_, fun _ => ⟨ixm_in (m := 3840) (by decide) (by decide) hc (by omega), ixm_in (m := 3840) (by decide) (by decide) he (by omega), e_X12_copy_336 ?_⟩⟩
    · rw [nIclamp (by omega)] at q
      have q' : xI X 69 c ≤ nI n := q
      rw [h69] at q'
      have := Int32.le_iff_toInt_le.mp q'
      rw [nI_toInt (by omega), nI_toInt (by omega)] at this
      omega
    · rw [(ixm (mm := 3840) (m := 3840) (c := c) (n := n) (by decide) (by decide) hc (by omega)).2, (ixm (mm := 3840) (m := 3840) (c := e) (n := n) (by decide) (by decide) he (by omega)).2]
      have z := ih (n + 1) (by omega)
      rw [← blk_S, ← u2_u1, ← blk_src (xI X 82) hne (show n < 3840 by omega), ← nI_1] at z
      exact z
theorem s_cp83 {c e : Nat} (hc : c < 5) (he : e < 5) (hne : c ≠ e) (h : r_X12_copy tb0 K KX 400 [some (vR (some 42)), some (vI (nI c)), some (vI (nI e)), some (vI (nI 50))] [] (xS X, u1 (u1 (xI X) 83 (blk (xI X 83) 50 c e 50)) 84 (blk (xI X 84) 50 c e 50), xJ X, xR X, xN X) 0 0) : ∀ r n, n + r = 50 → r_X12_copy tb0 K KX 344 [some (vR (some 42)), some (vI (nI c)), some (vI (nI e)), some (vI (nI n))] [] (xS X, u1 (u1 (xI X) 83 (blk (xI X 83) 50 c e n)) 84 (blk (xI X 84) 50 c e n), xJ X, xR X, xN X) 0 0 := by
  intro r
  induction r with
  | zero =>
    intro n hn
    obtain rfl : n = 50 := by omega
    exact e_X12_copy_344 ⟨fun _ => h, fun q => absurd (by decide) q⟩
  | succ r ih =>
    intro n hn
    refine e_X12_copy_344 ⟨fun q => ?_, fun _ => ⟨ixm_in (m := 50) (by decide) (by decide) hc (by omega), ixm_in (m := 50) (by decide) (by decide) he (by omega), ixm_in (m := 50) (by decide) (by decide) hc (by omega), ixm_in (m := 50) (by decide) (by decide) he (by omega), ?_⟩⟩
    · have := Int32.le_iff_toInt_le.mp q
      rw [nI_toInt (by omega)] at this
      have e12 : (50 : Int32).toInt = 50 := by decide
      omega
    · rw [(ixm (mm := 50) (m := 50) (c := c) (n := n) (by decide) (by decide) hc (by omega)).2, (ixm (mm := 50) (m := 50) (c := e) (n := n) (by decide) (by decide) he (by omega)).2]
      have z := ih (n + 1) (by omega)
      rw [← blk_S, ← blk_S, ← u2_u1, ← u2_u1c (xI X) (show (83 : Nat) ≠ 84 by decide), ← blk_src (xI X 83) hne (show n < 50 by omega), ← blk_src (xI X 84) hne (show n < 50 by omega), ← nI_1] at z
      exact z
theorem s_cp85 {c e : Nat} (hc : c < 5) (he : e < 5) (hne : c ≠ e) (h : K none (xS X, xI X, u1 (u1 (xJ X) 85 (blk (xJ X 85) 80 c e 80)) 86 (blk (xJ X 86) 80 c e 80), xR X, xN X)) : ∀ r n, n + r = 80 → r_X12_copy tb0 K KX 402 [some (vR (some 42)), some (vI (nI c)), some (vI (nI e)), some (vI (nI n))] [] (xS X, xI X, u1 (u1 (xJ X) 85 (blk (xJ X 85) 80 c e n)) 86 (blk (xJ X 86) 80 c e n), xR X, xN X) 0 0 := by
  intro r
  induction r with
  | zero =>
    intro n hn
    obtain rfl : n = 80 := by omega
    exact e_X12_copy_402 ⟨fun _ => e_X12_copy_458 h, fun q => absurd (by decide) q⟩
  | succ r ih =>
    intro n hn
    refine e_X12_copy_402 ⟨fun q => ?_, fun _ => ⟨ixm_in (m := 80) (by decide) (by decide) hc (by omega), ixm_in (m := 80) (by decide) (by decide) he (by omega), e_X12_copy_430 ⟨ixm_in (m := 80) (by decide) (by decide) hc (by omega), ixm_in (m := 80) (by decide) (by decide) he (by omega), ?_⟩⟩⟩
    · have := Int32.le_iff_toInt_le.mp q
      rw [nI_toInt (by omega)] at this
      have e12 : (80 : Int32).toInt = 80 := by decide
      omega
    · rw [(ixm (mm := 80) (m := 80) (c := c) (n := n) (by decide) (by decide) hc (by omega)).2, (ixm (mm := 80) (m := 80) (c := e) (n := n) (by decide) (by decide) he (by omega)).2]
      have z := ih (n + 1) (by omega)
      rw [← blk_S, ← blk_S, ← u2_u1, ← u2_u1c (xJ X) (show (85 : Nat) ≠ 86 by decide), ← blk_src (xJ X 85) hne (show n < 80 by omega), ← blk_src (xJ X 86) hne (show n < 80 by omega), ← nI_1] at z
      exact z
end Blk2
