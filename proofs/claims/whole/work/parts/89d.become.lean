/-! one meter becomes another -/
section Become
variable {X : AX} {K : Option AV → AX → Prop} {KX : String → AX → Prop}
def bcP (f : Nat → Nat → Int32) (d s : Nat) : Nat → Nat → Int32 := fun c k => if c = d + 2 then (if k < 24 then f (s + 2) k else f c k) else if c = d + 3 then (if k < 24 then f (s + 3) k else f c k) else f c k
theorem cpy24 (f g : Nat → Int32) : va_cpy f g (Int32.toNatClampNeg 0) (Int32.toNatClampNeg 0) (Int32.toNatClampNeg 24) = fun k => if k < 24 then f k else g k := by
  funext k
  have e0 : Int32.toNatClampNeg 0 = 0 := by decide
  have e1 : Int32.toNatClampNeg 24 = 24 := by decide
  rw [e0, e1]
  unfold va_cpy
  by_cases hk : k < 24 <;> simp [hk]
def bcI (f : Nat → Nat → Int32) (d s : Nat) : Nat → Nat → Int32 := u2 (u2 (u2 (u2 (u2 (u2 (u2 (u2 (u2 (u2 (u2 (u2 (bcP f d s) (d + 1) 3 (f (s + 1) 3)) d 2 (f s 2)) d 3 (f s 3)) d 4 (f s 4)) d 7 (f s 7)) d 8 (f s 8)) d 9 (f s 9)) d 10 (f s 10)) d 11 (f s 11)) d 12 (f s 12)) d 13 (f s 13)) d 14 (f s 14)
def bcX (X : AX) (d s : Nat) : AX := (xS X, bcI (xI X) d s, u2 (u2 (xJ X) d 5 (xJ X s 5)) d 6 (xJ X s 6), u2 (xR X) d 1 (xR X s 1), xN X)
theorem bcP_u1 (f : Nat → Nat → Int32) (d s : Nat) (h : s + 3 ≠ d + 2) : u1 (u1 f (d + 2) (fun k => if k < 24 then f (s + 2) k else f (d + 2) k)) (d + 3) (fun k => if k < 24 then (u1 f (d + 2) (fun k => if k < 24 then f (s + 2) k else f (d + 2) k)) (s + 3) k else (u1 f (d + 2) (fun k => if k < 24 then f (s + 2) k else f (d + 2) k)) (d + 3) k) = bcP f d s := by
  funext c k
  unfold u1 bcP
  by_cases h2 : c = d + 2
  · subst h2; simp
  · by_cases h3 : c = d + 3
    · subst h3; simp [h]
    · simp [h2, h3]
theorem s_bcP_24 (h : K none (xS X, u2 (bcP (xI X) 24 15) 25 3 (xI X 16 3), xJ X, xR X, xN X)) : w_X7_become tb0 [vR (some 25), vR (some 16)] X K KX := by
  refine i_X7_become_m25 ⟨by decide, by decide, ?_⟩
  simp only [cpy24]
  rw [← bcP_u1 (xI X) 24 15 (by decide)] at h
  exact h
theorem s_become_24 (hs : xI X 15 14 = 0 ∨ xI X 15 14 = 1) (h : K none (bcX X 24 15)) : w_X5_become tb0 [vR (some 24), vR (some 15)] X K KX := by
  refine i_X5_become_m24 (s_bcP_24 ?_)
  exact ⟨hs, h⟩
theorem s_bcP_15 (h : K none (xS X, u2 (bcP (xI X) 15 24) 16 3 (xI X 25 3), xJ X, xR X, xN X)) : w_X7_become tb0 [vR (some 16), vR (some 25)] X K KX := by
  refine i_X7_become_m16 ⟨by decide, by decide, ?_⟩
  simp only [cpy24]
  rw [← bcP_u1 (xI X) 15 24 (by decide)] at h
  exact h
theorem s_become_15 (hs : xI X 24 14 = 0 ∨ xI X 24 14 = 1) (h : K none (bcX X 15 24)) : w_X5_become tb0 [vR (some 15), vR (some 24)] X K KX := by
  refine i_X5_become_m15 (s_bcP_15 ?_)
  exact ⟨hs, h⟩
end Become
