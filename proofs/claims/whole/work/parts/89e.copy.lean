/-! the reference's copy: its straight front -/
section Copy
variable {X : AX} {K : Option AV → AX → Prop} {KX : String → AX → Prop}
def cpS (X : AX) (c e : Nat) : AX := (xS X, u2 (u2 (u2 (u2 (u2 (u2 (u2 (u2 (u2 (u2 (u2 (u2 (u2 (u2 (u2 (u2 (u2 (u2 (xI X) 58 e (xI X 58 c)) 59 e (xI X 59 c)) 60 e (xI X 60 c)) 61 e (xI X 61 c)) 62 e (xI X 62 c)) 63 e (xI X 63 c)) 64 e (xI X 64 c)) 65 e (xI X 65 c)) 66 e (xI X 66 c)) 67 e (xI X 67 c)) 68 e (xI X 68 c)) 69 e (xI X 69 c)) 70 e (xI X 70 c)) 72 e (xI X 72 c)) 73 e (xI X 73 c)) 78 e (xI X 78 c)) 79 e (xI X 79 c)) 80 e (xI X 80 c), u2 (u2 (u2 (u2 (xJ X) 74 e (xJ X 74 c)) 75 e (xJ X 75 c)) 76 e (xJ X 76 c)) 77 e (xJ X 77 c), xR X, xN X)
theorem s_copyA {a0 a1 : Int32} (ha : vp_in a0 5) (hb : vp_in a1 5) (h78 : xI X 78 a0.toNatClampNeg = 0 ∨ xI X 78 a0.toNatClampNeg = 1) (h79 : xI X 79 a0.toNatClampNeg = 0 ∨ xI X 79 a0.toNatClampNeg = 1) (h80 : xI X 80 a0.toNatClampNeg = 0 ∨ xI X 80 a0.toNatClampNeg = 1) (h : r_X12_copy tb0 K KX 266 [some (vR (some 42)), some (vI a0), some (vI a1), some (vI 0)] [] (cpS X a0.toNatClampNeg a1.toNatClampNeg) 0 0) : w_X12_copy tb0 [vR (some 42), vI a0, vI a1] X K KX := by
  refine i_X12_copy ⟨ha, hb, ha, hb, ha, hb, ?_⟩
  refine e_X12_copy_36 ⟨ha, hb, ha, hb, ha, hb, ?_⟩
  refine e_X12_copy_72 ⟨ha, hb, ha, hb, ha, hb, ?_⟩
  refine e_X12_copy_108 ⟨ha, hb, ha, hb, ha, hb, ?_⟩
  refine e_X12_copy_144 ⟨ha, hb, ha, hb, ha, hb, ?_⟩
  refine e_X12_copy_180 ⟨ha, hb, ha, hb, ha, hb, ?_⟩
  refine e_X12_copy_216 ⟨ha, hb, ha, hb, h78, ha, hb, h79, ?_⟩
  refine e_X12_copy_252 ⟨ha, hb, h80, ?_⟩
  exact h
end Copy
