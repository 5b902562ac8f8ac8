section Small
variable {X : AX} {K : Option AV → AX → Prop} {KX : String → AX → Prop}
theorem s_isFrom {a0 a1 a2 : Int32} (h1 : a1.toInt ≤ a0.toInt → a0.toInt ≤ a2.toInt → K (some (vI 1)) X) (h0 : ¬ (a1.toInt ≤ a0.toInt ∧ a0.toInt ≤ a2.toInt) → K (some (vI 0)) X) : w_X11_isFrom tb0 [vI a0, vI a1, vI a2] X K KX := by
  refine i_X11_isFrom ⟨fun c => e_X11_isFrom_14 (e_X11_isFrom_15 ⟨Or.inl rfl, h0 ?_⟩), fun c => ⟨fun c' => e_X11_isFrom_14 (e_X11_isFrom_15 ⟨Or.inl rfl, h0 ?_⟩), fun c' => e_X11_isFrom_15 ⟨Or.inr rfl, h1 ?_ ?_⟩⟩⟩
  all_goals simp only [Int32.lt_iff_toInt_lt] at *
  all_goals omega
theorem s_demand1 (h : K none X) : w_X11_demand tb0 [vI 1] X K KX := i_X11_demand ⟨fun _ => e_X11_demand_12 h, fun c => absurd c (by decide)⟩
theorem s_demand0 (h : ∀ n1, xN X ≤ n1 → KX "java/lang/IllegalArgumentException" (xS X, xI X, xJ X, xR X, n1)) : w_X11_demand tb0 [vI 0] X K KX := i_X11_demand ⟨fun c => absurd rfl c, fun _ => h⟩
theorem s_demandState1 (h : K none X) : w_X11_demandState tb0 [vI 1] X K KX := i_X11_demandState ⟨fun _ => e_X11_demandState_12 h, fun c => absurd c (by decide)⟩
theorem s_demandState0 (h : ∀ n1, xN X ≤ n1 → KX "java/lang/IllegalStateException" (xS X, xI X, xJ X, xR X, n1)) : w_X11_demandState tb0 [vI 0] X K KX := i_X11_demandState ⟨fun c => absurd rfl c, fun _ => h⟩
theorem s_demandSuch1 (h : K none X) : w_X11_demandSuch tb0 [vI 1] X K KX := i_X11_demandSuch ⟨fun _ => e_X11_demandSuch_12 h, fun c => absurd c (by decide)⟩
theorem s_demandSuch0 (h : ∀ n1, xN X ≤ n1 → KX "java/util/NoSuchElementException" (xS X, xI X, xJ X, xR X, n1)) : w_X11_demandSuch tb0 [vI 0] X K KX := i_X11_demandSuch ⟨fun c => absurd rfl c, fun _ => h⟩
theorem s_demandPlace {a0 a1 : Int32} (h1 : 0 ≤ a0.toInt → a0.toInt < a1.toInt → K none X) (h0 : ¬ (0 ≤ a0.toInt ∧ a0.toInt < a1.toInt) → ∀ n1, xN X ≤ n1 → KX "java/lang/IndexOutOfBoundsException" (xS X, xI X, xJ X, xR X, n1)) : w_X11_demandPlace tb0 [vI a0, vI a1] X K KX := by
  refine i_X11_demandPlace ⟨fun c => e_X11_demandPlace_9 (h0 ?_), fun c => ⟨fun c' => e_X11_demandPlace_17 (h1 ?_ ?_), fun c' => e_X11_demandPlace_9 (h0 ?_)⟩⟩
  all_goals simp only [Int32.lt_iff_toInt_lt, z32] at *
  all_goals omega
theorem s_refuse (h1 : (xI X 14 6).toInt = 0 → K none X) (h0 : ¬ (xI X 14 6).toInt = 0 → ∀ n1, xN X ≤ n1 → KX "java/lang/IllegalStateException" (xS X, xI X, xJ X, xR X, n1)) : w_X11_refuseWhileHired tb0 [vR (some 4)] X K KX :=
  i_X11_refuseWhileHired ⟨fun c => e_X11_refuseWhileHired_14 (e_X11_refuseWhileHired_15 (s_demandState0 (h0 fun q => c (Int32.toInt_inj.mp (q.trans z32.symm))))), fun c => e_X11_refuseWhileHired_15 (s_demandState1 (rV_in (h1 (by rw [c]; rfl))))⟩
theorem s_hired (hb : xI X 14 6 = 0 ∨ xI X 14 6 = 1) (h1 : (xI X 14 6).toInt = 1 → K none X) (h0 : (xI X 14 6).toInt = 0 → ∀ n1, xN X ≤ n1 → KX "java/lang/IllegalStateException" (xS X, xI X, xJ X, xR X, n1)) : w_X11_demandHired tb0 [vR (some 4)] X K KX := by
  refine i_X11_demandHired ?_
  rcases hb with e | e <;> rw [e] at h1 h0 ⊢
  · exact s_demandState0 (h0 rfl)
  · exact s_demandState1 (rV_in (h1 rfl))
theorem s_right1 {a1 : Int32} {S : Nat → Nat × Nat} {I : Nat → Nat → Int32} {J : Nat → Nat → Int64} {R : Nat → Nat → Option Nat} {nn : Nat} (h : K (some (vI 1)) (S, u2 I 42 0 0, J, R, nn)) : w_X12_right tb0 [vR (some 42), vI 1, vI a1] (S, u2 I 42 0 0, J, R, nn) K KX :=
  i_X12_right ⟨fun c => absurd rfl c, fun _ => ⟨fun _ => e_X12_right_16 ⟨fun c => absurd rfl c, fun _ => e_X12_right_28 ⟨Or.inr rfl, h⟩⟩, fun c => absurd c (by decide)⟩⟩
theorem s_right0 {a1 : Int32} {S : Nat → Nat × Nat} {I : Nat → Nat → Int32} {J : Nat → Nat → Int64} {R : Nat → Nat → Option Nat} {nn : Nat} (ha : ¬ a1 = 0) (h : K (some (vI 0)) (S, u2 (u2 I 42 0 0) 42 0 a1, J, R, nn)) : w_X12_right tb0 [vR (some 42), vI 0, vI a1] (S, u2 I 42 0 0, J, R, nn) K KX :=
  i_X12_right ⟨fun c => absurd rfl c, fun _ => ⟨fun c => absurd rfl c, fun _ => e_X12_right_16 ⟨fun _ => e_X12_right_27 (e_X12_right_28 ⟨Or.inl rfl, h⟩), fun c => absurd c ha⟩⟩⟩
theorem s_thrown (h : K (some (vI (xI X 42 0))) X) : w_X12_thrown tb0 [vR (some 42)] X K KX := i_X12_thrown h
theorem clp {x : Int32} (h : 0 ≤ x.toInt) : (x.toNatClampNeg : Int) = x.toInt := by
  show ((x.toInt.toNat : Nat) : Int) = x.toInt
  omega
theorem ix60 {a b : Int32} (ha : 0 ≤ a.toInt) (ha1 : a.toInt < 64) (hb : 0 ≤ b.toInt) (hb1 : b.toInt < 60) : (60 * a + b).toInt = 60 * a.toInt + b.toInt ∧ (a * 60 + b) = (60 * a + b) ∧ (60 * a + b).toNatClampNeg = 60 * a.toNatClampNeg + b.toNatClampNeg := by
  have e0 : (60 : Int32).toInt = 60 := by decide
  have e1 : (60 * a).toInt = 60 * a.toInt := by rw [n_mul] <;> rw [e0] <;> omega
  have e2 : (60 * a + b).toInt = 60 * a.toInt + b.toInt := by rw [n_add] <;> rw [e1] <;> omega
  refine ⟨e2, by rw [Int32.mul_comm], ?_⟩
  have h1 := clp ha
  have h2 := clp hb
  have h3 := clp (x := 60 * a + b) (by omega)
  omega
theorem s_at {a0 a1 : Int32} (h0 : 0 ≤ a0.toInt) (h64 : a0.toInt < 64) (hb : (xI X 7 a0.toNatClampNeg).toInt ≤ 60) (h1 : 0 ≤ a1.toInt → a1.toInt < (xI X 7 a0.toNatClampNeg).toInt → K (some (vI (xI X 6 (60 * a0.toNatClampNeg + a1.toNatClampNeg)))) X) (h2 : ¬ (0 ≤ a1.toInt ∧ a1.toInt < (xI X 7 a0.toNatClampNeg).toInt) → K (some (vI (-1))) X) : w_X8_at tb0 [vR (some 5), vI a0, vI a1] X K KX := by
  refine i_X8_at ⟨fun c => e_X8_at_28 (e_X8_at_29 (h2 ?_)), fun c => ⟨vp_in_iff.mpr ⟨h0, h64⟩, fun c1 => e_X8_at_28 (e_X8_at_29 (h2 ?_)), fun c1 => ?_⟩⟩
  · rw [Int32.lt_iff_toInt_lt, z32] at c; omega
  · rw [Int32.le_iff_toInt_le] at c1; omega
  · rw [Int32.lt_iff_toInt_lt, z32] at c
    rw [Int32.le_iff_toInt_le] at c1
    obtain ⟨e1, e2, e3⟩ := ix60 h0 h64 (b := a1) (by omega) (by omega)
    rw [e2, e3]
    exact ⟨vp_in_iff.mpr (by rw [e1]; omega), e_X8_at_29 (h1 (by omega) (by omega))⟩
theorem s_told {a0 a1 : Int32} (h0 : 0 ≤ a0.toInt) (h64 : a0.toInt < 64) (hb : (xI X 43 a0.toNatClampNeg).toInt ≤ 60) (h1 : 0 ≤ a1.toInt → a1.toInt < (xI X 43 a0.toNatClampNeg).toInt → K (some (vI (xI X 44 (60 * a0.toNatClampNeg + a1.toNatClampNeg)))) X) (h2 : ¬ (0 ≤ a1.toInt ∧ a1.toInt < (xI X 43 a0.toNatClampNeg).toInt) → K (some (vI (-1))) X) : w_X12_told tb0 [vR (some 42), vI a0, vI a1] X K KX := by
  refine i_X12_told ⟨fun c => e_X12_told_28 (e_X12_told_29 (h2 ?_)), fun c => ⟨vp_in_iff.mpr ⟨h0, h64⟩, fun c1 => e_X12_told_28 (e_X12_told_29 (h2 ?_)), fun c1 => ?_⟩⟩
  · rw [Int32.lt_iff_toInt_lt, z32] at c; omega
  · rw [Int32.le_iff_toInt_le] at c1; omega
  · rw [Int32.lt_iff_toInt_lt, z32] at c
    rw [Int32.le_iff_toInt_le] at c1
    obtain ⟨e1, e2, e3⟩ := ix60 h0 h64 (b := a1) (by omega) (by omega)
    rw [e3]
    exact ⟨vp_in_iff.mpr (by rw [e1]; omega), e_X12_told_29 (h1 (by omega) (by omega))⟩
end Small
