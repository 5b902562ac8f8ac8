/-! the reference's copy -/
section Copy2
variable {X : AX} {K : Option AV → AX → Prop} {KX : String → AX → Prop} {α : Type}
theorem u1_same (f : Nat → Nat → α) (i m c e : Nat) : u1 f i (blk (f i) m c e 0) = f := by
  funext a b
  rw [blk_0]
  unfold u1
  by_cases ha : a = i
  · subst ha; simp
  · simp [ha]
def cp1 (X : AX) (c e : Nat) : AX := (xS X, u1 (xI X) 81 (blk (xI X 81) 12 c e 12), xJ X, xR X, xN X)
def cp2 (X : AX) (c e N : Nat) : AX := (xS X, u1 (xI X) 82 (blk (xI X 82) 3840 c e N), xJ X, xR X, xN X)
def cp3 (X : AX) (c e : Nat) : AX := (xS X, u1 (u1 (xI X) 83 (blk (xI X 83) 50 c e 50)) 84 (blk (xI X 84) 50 c e 50), xJ X, xR X, xN X)
def cp4 (X : AX) (c e : Nat) : AX := (xS X, xI X, u1 (u1 (xJ X) 85 (blk (xJ X 85) 80 c e 80)) 86 (blk (xJ X 86) 80 c e 80), xR X, xN X)
def cpX (X : AX) (c e N : Nat) : AX := cp4 (cp3 (cp2 (cp1 (cpS X c e) c e) c e N) c e) c e
theorem s_copy {c e N : Nat} (hc : c < 5) (he : e < 5) (hne : c ≠ e) (h78 : xI X 78 c = 0 ∨ xI X 78 c = 1) (h79 : xI X 79 c = 0 ∨ xI X 79 c = 1) (h80 : xI X 80 c = 0 ∨ xI X 80 c = 1) (hbl : ∀ j, j < 12 → bl (xI X 81 (12 * c + j))) (hN : N ≤ 3840) (h69 : xI X 69 c = nI N) (h : K none (cpX X c e N)) : w_X12_copy tb0 [vR (some 42), vI (nI c), vI (nI e)] X K KX := by
  have e0 : nI 0 = (0 : Int32) := by decide
  have ec := nIclamp (c := c) (by omega)
  have ee := nIclamp (c := e) (by omega)
  refine s_copyA (vp_in_nI (by omega) (by decide)) (vp_in_nI (by omega) (by decide)) (by rw [ec]; exact h78) (by rw [ec]; exact h79) (by rw [ec]; exact h80) ?_
  rw [ec, ee]
  have k4 := s_cp85 (X := cp3 (cp2 (cp1 (cpS X c e) c e) c e N) c e) (K := K) (KX := KX) hc he hne h 80 0 rfl
  rw [u1_same, u1_same, e0] at k4
  have k3 := s_cp83 (X := cp2 (cp1 (cpS X c e) c e) c e N) (K := K) (KX := KX) hc he hne (e_X12_copy_400 k4) 50 0 rfl
  rw [u1_same, u1_same, e0] at k3
  have k69 : xI (cp1 (cpS X c e) c e) 69 c = nI N := by
    show (if c = e then xI X 69 c else xI X 69 c) = nI N
    rw [if_neg hne]; exact h69
  have k2 := s_cp82 (X := cp1 (cpS X c e) c e) (K := K) (KX := KX) hc he hne hN k69 (e_X12_copy_342 k3) N 0 (by omega)
  rw [u1_same, e0] at k2
  have k1 := s_cp81 (X := cpS X c e) (K := K) (KX := KX) hc he hne hbl (e_X12_copy_300 k2) 12 0 rfl
  rw [u1_same, e0] at k1
  exact k1
end Copy2
