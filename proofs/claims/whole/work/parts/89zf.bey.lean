/-! nearness by the reference -/
section Bey
variable {S : Nat → Nat × Nat} {I : Nat → Nat → Int32} {J : Nat → Nat → Int64} {R : Nat → Nat → Option Nat} {nn c d p1 p2 : Nat} {K : Option AV → AX → Prop} {KX : String → AX → Prop} {a b l5 : Int32}
theorem fD_add {G : Nat → Int64} {p : Nat} : ∀ j, fD G (p + j) = fD G p * fD (fun k => G (p + k)) j
  | 0 => by
    show fD G p = fD G p * 1
    rw [Int.mul_one]
  | j + 1 => by
    show fD G (p + j) * (G (p + j)).toInt = fD G p * (fD (fun k => G (p + k)) j * (G (p + j)).toInt)
    rw [fD_add j, Int.mul_assoc]
/-- over the second row of parts: what is lacking of each -/
def lkI (g G h : Nat → Int64) (p j lk : Nat) : Prop := (∀ k, p + j ≤ k → h k = g k) ∧ (∀ k, k < p + j → 0 ≤ (h k).toInt ∧ (h k).toInt < (G k).toInt) ∧ lk ≤ j ∧ fN' h G (p + j) = fN' g G p * fD (fun k => G (p + k)) j - fN' (fun k => g (p + k)) (fun k => G (p + k)) j * fD G p + (lk : Int) * (fD G p * fD (fun k => G (p + k)) j)
theorem lk_step {g G h : Nat → Int64} {p j lk : Nat} (hg : 0 ≤ (g (p + j)).toInt ∧ (g (p + j)).toInt < (G (p + j)).toInt ∧ (G (p + j)).toInt ≤ 200000000) (hv : lkI g G h p j lk) : (h (p + j) = 0 → lkI g G h p (j + 1) lk) ∧ (¬ h (p + j) = 0 → lkI g G (stf h (p + j) (G (p + j) - h (p + j))) p (j + 1) (lk + 1)) := by
  obtain ⟨v1, v2, v3, v4⟩ := hv
  have e := v1 (p + j) (Nat.le_refl _)
  have e0 : (0 : Int64).toInt = 0 := by decide
  refine ⟨fun z => ?_, fun z => ?_⟩
  · rw [e] at z
    refine ⟨fun k hk => v1 k (by omega), fun k hk => ?_, by omega, ?_⟩
    · by_cases w : k = p + j
      · rw [w, e]; exact ⟨hg.1, hg.2.1⟩
      · exact v2 k (by omega)
    · show fN' h G (p + j) * (G (p + j)).toInt + fD G (p + j) * (h (p + j)).toInt = fN' g G p * (fD (fun k => G (p + k)) j * (G (p + j)).toInt) - (fN' (fun k => g (p + k)) (fun k => G (p + k)) j * (G (p + j)).toInt + fD (fun k => G (p + k)) j * (g (p + j)).toInt) * fD G p + (lk : Int) * (fD G p * (fD (fun k => G (p + k)) j * (G (p + j)).toInt))
      rw [e, z, e0, v4]
      grind
  · have z' : ¬ (g (p + j)).toInt = 0 := fun w => z (by rw [e]; exact Int64.toInt_inj.mp (w.trans e0.symm))
    have es : (G (p + j) - h (p + j)).toInt = (G (p + j)).toInt - (g (p + j)).toInt := by
      rw [e, n_subL] <;> omega
    have cg := (fN_cong (f := stf h (p + j) (G (p + j) - h (p + j))) (g := G) (f' := h) (g' := G) (n := p + j) (fun k hk => ⟨stf_ne _ _ (by omega), rfl⟩)).1
    refine ⟨fun k hk => ?_, fun k hk => ?_, by omega, ?_⟩
    · rw [stf_ne _ _ (by omega)]; exact v1 k (by omega)
    · by_cases w : k = p + j
      · rw [w, stf_at, es]; omega
      · rw [stf_ne _ _ w]; exact v2 k (by omega)
    · show fN' (stf h (p + j) (G (p + j) - h (p + j))) G (p + j) * (G (p + j)).toInt + fD G (p + j) * (stf h (p + j) (G (p + j) - h (p + j)) (p + j)).toInt = fN' g G p * (fD (fun k => G (p + k)) j * (G (p + j)).toInt) - (fN' (fun k => g (p + k)) (fun k => G (p + k)) j * (G (p + j)).toInt + fD (fun k => G (p + k)) j * (g (p + j)).toInt) * fD G p + ((lk + 1 : Nat) : Int) * (fD G p * (fD (fun k => G (p + k)) j * (G (p + j)).toInt))
      rw [cg, stf_at, es, v4, fD_add j]
      have ec : ((lk + 1 : Nat) : Int) = (lk : Int) + 1 := by omega
      rw [ec]
      grind
theorem bey_loop {g G : Nat → Int64} (hp1 : p1 ≤ 80) (hp2 : p2 ≤ 80) (h59 : I 42 59 = nI (p1 + p2)) (hG : J 88 = G) (hg : goodP g G (p1 + p2)) (hK : ∀ h lk, lkI g G h p1 p2 lk → r_X12_isBeyond tb0 K KX 83 [some (vR (some 42)), some (vI (nI c)), some (vI (nI d)), some (vI a), some (vI b), some (vI l5), some (vI (nI lk)), some (vI (nI (p1 + p2))), none, none] [] (S, I, u1 J 87 h, R, nn) 0 0) : ∀ r j h lk, j + r = p2 → lkI g G h p1 j lk → r_X12_isBeyond tb0 K KX 28 [some (vR (some 42)), some (vI (nI c)), some (vI (nI d)), some (vI a), some (vI b), some (vI l5), some (vI (nI lk)), some (vI (nI (p1 + j))), none, none] [] (S, I, u1 J 87 h, R, nn) 0 0
  | 0, j, h, lk, hj, hv => by
    obtain rfl : j = p2 := by omega
    refine e_X12_isBeyond_28 ⟨fun _ => hK h lk hv, fun w => absurd ?_ w⟩
    rw [show xI (S, I, u1 J 87 h, R, nn) 42 59 = nI (p1 + j) from h59]
    exact Int32.le_iff_toInt_le.mpr (Int.le_refl _)
  | r + 1, j, h, lk, hj, hv => by
    have ei : (nI (p1 + j)).toNatClampNeg = p1 + j := nI_clamp (by omega)
    have vi : vp_in (nI (p1 + j)) 170 := vp_in_nI (by omega) (by decide)
    have j87 : xJ (S, I, u1 J 87 h, R, nn) 87 = h := by
      show u1 J 87 h 87 = h
      rw [u1_at]
    have j88 : xJ (S, I, u1 J 87 h, R, nn) 88 = G := by
      show u1 J 87 h 88 = G
      rw [u1_ne _ _ (by decide)]; exact hG
    obtain ⟨s1, s2⟩ := lk_step (hg (p1 + j) (by omega)) hv
    refine e_X12_isBeyond_28 ⟨fun w => ?_, fun _ => ?_⟩
    · rw [show xI (S, I, u1 J 87 h, R, nn) 42 59 = nI (p1 + p2) from h59] at w
      have := Int32.le_iff_toInt_le.mp w
      rw [nI_toInt (by omega), nI_toInt (by omega)] at this
      omega
    · rw [ei, j87]
      refine ⟨vi, fun w => e_X12_isBeyond_52 ?_, fun w => e_X12_isBeyond_77 ?_⟩
      · rw [ei, j87, j88]
        refine ⟨vi, vi, vi, e_X12_isBeyond_77 ?_⟩
        rw [nI_1, nI_1]
        have := bey_loop hp1 hp2 h59 hG hg hK r (j + 1) _ (lk + 1) (by omega) (s2 (fun z => w ((lg_cmp_eq _ _).mpr z)))
        rw [← u2_u1] at this
        exact this
      · rw [nI_1]
        exact bey_loop hp1 hp2 h59 hG hg hK r (j + 1) h lk (by omega) (s1 ((lg_cmp_eq _ _).mp w))
/-- what stays as it was -/
def FrB (X X' : AX) : Prop := xS X' = xS X ∧ xR X' = xR X ∧ xN X' = xN X ∧ (∀ i, i ≠ 42 → xI X' i = xI X i) ∧ (∀ j, j ≠ 59 → j ≠ 60 → xI X' 42 j = xI X 42 j) ∧ ∀ i, i < 87 ∨ 90 < i → xJ X' i = xJ X i
theorem FrB.trans {X Y Z : AX} (h1 : FrB X Y) (h2 : FrB Y Z) : FrB X Z := ⟨h2.1.trans h1.1, h2.2.1.trans h1.2.1, h2.2.2.1.trans h1.2.2.1, fun i hi => (h2.2.2.2.1 i hi).trans (h1.2.2.2.1 i hi), fun j a b => (h2.2.2.2.2.1 j a b).trans (h1.2.2.2.2.1 j a b), fun i hi => (h2.2.2.2.2.2 i hi).trans (h1.2.2.2.2.2 i hi)⟩
/-- the sum against nothing -/
theorem sum_sgn {rest N D : Int} (hD : 0 < D) : (0 < rest + N / D ∨ (rest + N / D = 0 ∧ ¬ N % D = 0)) ↔ 0 < rest * D + N := by
  have hdm := Int.mul_ediv_add_emod N D
  have r0 := Int.emod_nonneg N (show D ≠ 0 by omega)
  have r1 := Int.emod_lt_of_pos N hD
  generalize N / D = q at *
  generalize N % D = r at *
  have e : rest * D + N = (rest + q) * D + r := by
    rw [← hdm, Int.add_mul, Int.mul_comm D q]; omega
  rw [e]
  constructor
  · intro h
    rcases h with h | ⟨h, h2⟩
    · have := Int.mul_pos h hD
      omega
    · rw [h, Int.zero_mul]; omega
  · intro h
    rcases Int.lt_or_le 0 (rest + q) with g | g
    · exact Or.inl g
    · rcases Int.lt_or_le (rest + q) 0 with g2 | g2
      · have : (rest + q) * D ≤ (-1) * D := Int.mul_le_mul_of_nonneg_right (by omega) (by omega)
        omega
      · have g3 : rest + q = 0 := by omega
        rw [g3, Int.zero_mul] at h
        exact Or.inr ⟨g3, by omega⟩
theorem near_eq {N1 D1 N2 D2 M1 M2 T1 B1 T2 B2 s1 s2 a b : Int} (hD1 : 0 < D1) (hD2 : 0 < D2) (hB1 : 0 < B1) (hB2 : 0 < B2) (h1 : N1 * B1 = (M1 * B1 + T1) * D1) (h2 : N2 * B2 = (M2 * B2 + T2) * D2) : (0 < D1 * D2 * ((s1 - M1 - s2 + M2) * b - b - a) + (N1 * D2 - N2 * D1) * b) ↔ (a + b) * (B1 * B2) < b * ((T1 + s1 * B1) * B2) - b * ((T2 + s2 * B2) * B1) := by
  have hB := Int.mul_pos hB1 hB2
  have hD := Int.mul_pos hD1 hD2
  have key : (D1 * D2 * ((s1 - M1 - s2 + M2) * b - b - a) + (N1 * D2 - N2 * D1) * b) * (B1 * B2) = (b * ((T1 + s1 * B1) * B2) - b * ((T2 + s2 * B2) * B1) - (a + b) * (B1 * B2)) * (D1 * D2) := by
    have e1 : (N1 * D2 - N2 * D1) * b * (B1 * B2) = ((N1 * B1) * (D2 * B2) - (N2 * B2) * (D1 * B1)) * b := by grind
    rw [Int.add_mul, e1, h1, h2]
    grind
  constructor
  · intro h
    have x := Int.mul_pos h hB
    rw [key] at x
    have : 0 * (D1 * D2) < (b * ((T1 + s1 * B1) * B2) - b * ((T2 + s2 * B2) * B1) - (a + b) * (B1 * B2)) * (D1 * D2) := by rw [Int.zero_mul]; exact x
    have := Int.lt_of_mul_lt_mul_right this (Int.le_of_lt hD)
    omega
  · intro h
    have x : 0 < (b * ((T1 + s1 * B1) * B2) - b * ((T2 + s2 * B2) * B1) - (a + b) * (B1 * B2)) * (D1 * D2) := Int.mul_pos (by omega) hD
    rw [← key] at x
    have : 0 * (B1 * B2) < (D1 * D2 * ((s1 - M1 - s2 + M2) * b - b - a) + (N1 * D2 - N2 * D1) * b) * (B1 * B2) := by rw [Int.zero_mul]; exact x
    exact Int.lt_of_mul_lt_mul_right this (Int.le_of_lt hB)
set_option maxHeartbeats 1000000 in
/-- from the row of all parts to the answer -/
theorem bey_132 {g G : Nat → Int64} {n lk : Nat} {E : Int} {l7 : Int32} (hc : c < 5) (hd : d < 5) (hb : 1 ≤ b.toInt ∧ b.toInt ≤ 1000000) (ha : 0 ≤ a.toInt ∧ a.toInt ≤ 1000000) (hn : n ≤ 170) (hlk : lk ≤ 81) (h59 : I 42 59 = nI n) (h87 : J 87 = g) (h88 : J 88 = G) (hg : goodP g G n) (s1 : 0 ≤ (I 67 c).toInt ∧ (I 67 c).toInt ≤ 2000000) (s2 : 0 ≤ (I 67 d).toInt ∧ (I 67 d).toInt ≤ 2000000) (m1 : bnd (I 72 c) 0 80) (m2 : bnd (I 72 d) 0 80)
    (hE : (0 < ((I 67 c).toInt - (I 72 c).toInt - (I 67 d).toInt + (I 72 d).toInt - 1 - a.toInt / b.toInt - lk) * fD G n + fN' g G n) ↔ 0 < E)
    (hK : ∀ X' (y : Int32), FrB (S, I, J, R, nn) X' → ((y = 1 ∧ 0 < E) ∨ (y = 0 ∧ ¬ 0 < E)) → K (some (vI y)) X') : r_X12_isBeyond tb0 K KX 132 [some (vR (some 42)), some (vI (nI c)), some (vI (nI d)), some (vI a), some (vI b), some (vI l5), some (vI (nI lk)), some (vI l7), none, none] [] (S, I, J, R, nn) 0 0 := by
  have ec : (nI c).toNatClampNeg = c := nI_clamp (by omega)
  have ed : (nI d).toNatClampNeg = d := nI_clamp (by omega)
  have vc : vp_in (nI c) 5 := vp_in_nI (by omega) (by decide)
  have vd : vp_in (nI d) 5 := vp_in_nI (by omega) (by decide)
  have hb0 : ¬ b = 0 := fun z => by
    rw [z] at hb
    exact absurd hb.1 (by decide)
  have hD := fD_pos hg
  unfold bnd at m1 m2
  have e1L : (1 : Int64).toInt = 1 := by decide
  have e0L : (0 : Int64).toInt = 0 := by decide
  have e0 : (0 : Int32).toInt = 0 := by decide
  have eq := n_div (x := a) (y := b) ha.1 (by omega)
  have q0 : 0 ≤ a.toInt / b.toInt := Int.ediv_nonneg ha.1 (by omega)
  have q1 : a.toInt / b.toInt ≤ 1000000 := Int.le_trans (Int.ediv_le_self _ ha.1) ha.2
  have el : (nI lk).toInt = lk := nI_toInt (by omega)
  refine e_X12_isBeyond_132 ?_
  rw [ec, ed]
  refine ⟨vc, vc, vd, vd, hb0, s_whole (n := n) hn h59 (by rw [h87, h88]; exact hg) (fun q e w3 w4 e1 e2 => rI_in ?_)⟩
  rw [h87, h88] at e1 e2
  have hq : q ≤ 170 := by
    have z1 := (fN_rng hg).2.1
    have z2 := Int.mul_ediv_add_emod (fN' g G n) (fD G n)
    have z3 := Int.emod_nonneg (fN' g G n) (show fD G n ≠ 0 by omega)
    rw [e1] at z2
    have z4 : (q : Int) * fD G n ≤ (n : Int) * fD G n := by
      rw [Int.mul_comm (q : Int)]; omega
    have z5 := Int.le_of_mul_le_mul_right z4 hD
    omega
  have eqI : (nI q).toInt = q := nI_toInt (by omega)
  have val : ((((((((I 67 c).toInt64 - (I 72 c).toInt64) - (I 67 d).toInt64) + (I 72 d).toInt64) - 1) - (a / b).toInt64) - (nI lk).toInt64) + (nI q).toInt64).toInt = (I 67 c).toInt - (I 72 c).toInt - (I 67 d).toInt + (I 72 d).toInt - 1 - a.toInt / b.toInt - lk + q := by
    have f1 : ((I 67 c).toInt64 - (I 72 c).toInt64).toInt = (I 67 c).toInt - (I 72 c).toInt := by rw [n_subL] <;> rw [n_i2l, n_i2l] <;> omega
    have f2 : (((I 67 c).toInt64 - (I 72 c).toInt64) - (I 67 d).toInt64).toInt = (I 67 c).toInt - (I 72 c).toInt - (I 67 d).toInt := by rw [n_subL] <;> rw [f1, n_i2l] <;> omega
    have f3 : ((((I 67 c).toInt64 - (I 72 c).toInt64) - (I 67 d).toInt64) + (I 72 d).toInt64).toInt = (I 67 c).toInt - (I 72 c).toInt - (I 67 d).toInt + (I 72 d).toInt := by rw [n_addL] <;> rw [f2, n_i2l] <;> omega
    have f4 : (((((I 67 c).toInt64 - (I 72 c).toInt64) - (I 67 d).toInt64) + (I 72 d).toInt64) - 1).toInt = (I 67 c).toInt - (I 72 c).toInt - (I 67 d).toInt + (I 72 d).toInt - 1 := by rw [n_subL] <;> rw [f3, e1L] <;> omega
    have f5 : ((((((I 67 c).toInt64 - (I 72 c).toInt64) - (I 67 d).toInt64) + (I 72 d).toInt64) - 1) - (a / b).toInt64).toInt = (I 67 c).toInt - (I 72 c).toInt - (I 67 d).toInt + (I 72 d).toInt - 1 - a.toInt / b.toInt := by rw [n_subL] <;> rw [f4, n_i2l, eq] <;> omega
    have f6 : (((((((I 67 c).toInt64 - (I 72 c).toInt64) - (I 67 d).toInt64) + (I 72 d).toInt64) - 1) - (a / b).toInt64) - (nI lk).toInt64).toInt = (I 67 c).toInt - (I 72 c).toInt - (I 67 d).toInt + (I 72 d).toInt - 1 - a.toInt / b.toInt - lk := by rw [n_subL] <;> rw [f5, n_i2l, el] <;> omega
    rw [n_addL] <;> rw [f6, n_i2l, eqI] <;> omega
  have sg := sum_sgn (rest := (I 67 c).toInt - (I 72 c).toInt - (I 67 d).toInt + (I 72 d).toInt - 1 - a.toInt / b.toInt - lk) (N := fN' g G n) hD
  rw [hE, e1] at sg
  generalize hV : (((((((I 67 c).toInt64 - (I 72 c).toInt64) - (I 67 d).toInt64) + (I 72 d).toInt64) - 1) - (a / b).toInt64) - (nI lk).toInt64) + (nI q).toInt64 = V at val
  have fr : FrB (S, I, J, R, nn) (S, u2 I 42 60 e, u1 (u1 J 89 w3) 90 w4, R, nn) := ⟨rfl, rfl, rfl, fun i hi => u2_ne _ _ _ hi, fun j h1 h2 => by
    show u2 I 42 60 e 42 j = I 42 j
    rw [u2_at, if_neg h2], fun i hi => by
    show u1 (u1 J 89 w3) 90 w4 i = J i
    rw [u1_ne _ _ (by omega), u1_ne _ _ (by omega)]⟩
  have e60 : xI (S, u2 I 42 60 e, u1 (u1 J 89 w3) 90 w4, R, nn) 42 60 = e := by
    show u2 I 42 60 e 42 60 = e
    rw [u2_at, if_pos rfl]
  obtain ⟨e2a, e2b⟩ := e2 (by decide)
  have yes : 0 < E → ∀ l9 l10, r_X12_isBeyond tb0 K KX 213 [some (vR (some 42)), some (vI (nI c)), some (vI (nI d)), some (vI a), some (vI b), some (vI l5), some (vI (nI lk)), some (vL l9), none, some (vI l10)] [] (S, u2 I 42 60 e, u1 (u1 J 89 w3) 90 w4, R, nn) 0 0 := fun h l9 l10 => e_X12_isBeyond_213 (e_X12_isBeyond_218 ⟨Or.inr rfl, hK _ 1 fr (Or.inl ⟨rfl, h⟩)⟩)
  have no : ¬ 0 < E → ∀ l9 l10, r_X12_isBeyond tb0 K KX 217 [some (vR (some 42)), some (vI (nI c)), some (vI (nI d)), some (vI a), some (vI b), some (vI l5), some (vI (nI lk)), some (vL l9), none, some (vI l10)] [] (S, u2 I 42 60 e, u1 (u1 J 89 w3) 90 w4, R, nn) 0 0 := fun h l9 l10 => e_X12_isBeyond_217 (e_X12_isBeyond_218 ⟨Or.inl rfl, hK _ 0 fr (Or.inr ⟨rfl, h⟩)⟩)
  rw [e60]
  have cle : ¬ (0 : Int32) < lg_cmp V 0 ↔ V.toInt ≤ 0 := by
    constructor
    · intro w
      have w1 : lg_cmp V 0 ≤ 0 := Int32.le_iff_toInt_le.mpr (by
        rcases Int.lt_or_le (0 : Int32).toInt (lg_cmp V 0).toInt with g | g
        · exact absurd (Int32.lt_iff_toInt_lt.mpr g) w
        · exact g)
      have := Int64.le_iff_toInt_le.mp ((lg_cmp_le _ _).mp w1)
      omega
    · intro w w2
      have w1 : lg_cmp V 0 ≤ 0 := (lg_cmp_le _ _).mpr (Int64.le_iff_toInt_le.mpr (by omega))
      have x1 := Int32.le_iff_toInt_le.mp w1
      have x2 := Int32.lt_iff_toInt_lt.mp w2
      omega
  have ceq : lg_cmp V 0 = 0 ↔ V.toInt = 0 := by
    rw [lg_cmp_eq]
    constructor
    · intro w; rw [w]; exact e0L
    · intro w; exact Int64.toInt_inj.mp (w.trans e0L.symm)
  refine ⟨fun w => yes (sg.mp (Or.inl ?_)) _ _, fun w => ⟨fun w2 => no (fun h => ?_) _ _, fun w2 => ⟨fun w3 => no (fun h => ?_) _ _, fun w3 => yes (sg.mp (Or.inr ⟨?_, fun h => ?_⟩)) _ _⟩⟩⟩
  · have : ¬ V.toInt ≤ 0 := fun h => cle.mpr h w
    omega
  · have h1 := cle.mp w
    have h2 : ¬ V.toInt = 0 := fun h => w2 (ceq.mpr h)
    rcases sg.mpr h with g | ⟨g, -⟩ <;> omega
  · have h1 := ceq.mp w2
    have h3 : e = 1 := by
      rcases e2a with g | g
      · exact absurd g w3
      · exact g
    rcases sg.mpr h with g | ⟨-, g⟩
    · omega
    · exact g (e2b.mp h3)
  · have h1 := ceq.mp w2
    omega
  · have := e2b.mpr h
    rw [this] at w3
    exact absurd w3 (by decide)
set_option maxHeartbeats 1000000 in
theorem s_isBeyond {T1 B1 T2 B2 : Int} (hc : c < 5) (hd : d < 5) (hp1 : p1 ≤ 80) (hp2 : p2 ≤ 80) (h1 : I 73 c = nI p1) (h2 : I 73 d = nI p2) (g1 : goodP (cOv c (S, I, J, R, nn)) (cUn c (S, I, J, R, nn)) p1) (g2 : goodP (cOv d (S, I, J, R, nn)) (cUn d (S, I, J, R, nn)) p2) (n1 : fN' (cOv c (S, I, J, R, nn)) (cUn c (S, I, J, R, nn)) p1 * B1 = ((I 72 c).toInt * B1 + T1) * fD (cUn c (S, I, J, R, nn)) p1) (n2 : fN' (cOv d (S, I, J, R, nn)) (cUn d (S, I, J, R, nn)) p2 * B2 = ((I 72 d).toInt * B2 + T2) * fD (cUn d (S, I, J, R, nn)) p2) (hB1 : 0 < B1) (hB2 : 0 < B2) (hb : 1 ≤ b.toInt ∧ b.toInt ≤ 1000000) (ha : 0 ≤ a.toInt ∧ a.toInt ≤ 1000000) (s1 : 0 ≤ (I 67 c).toInt ∧ (I 67 c).toInt ≤ 2000000) (s2 : 0 ≤ (I 67 d).toInt ∧ (I 67 d).toInt ≤ 2000000) (m1 : bnd (I 72 c) 0 80) (m2 : bnd (I 72 d) 0 80)
    (hK : ∀ X' (y : Int32), FrB (S, I, J, R, nn) X' → ((y = 1 ∧ (a.toInt + b.toInt) * (B1 * B2) < b.toInt * ((T1 + (I 67 c).toInt * B1) * B2) - b.toInt * ((T2 + (I 67 d).toInt * B2) * B1)) ∨ (y = 0 ∧ ¬ (a.toInt + b.toInt) * (B1 * B2) < b.toInt * ((T1 + (I 67 c).toInt * B1) * B2) - b.toInt * ((T2 + (I 67 d).toInt * B2) * B1))) → K (some (vI y)) X') : w_X12_isBeyond tb0 [vR (some 42), vI (nI c), vI (nI d), vI a, vI b] (S, I, J, R, nn) K KX := by
  have z0 : nI 0 = (0 : Int32) := by decide
  have hb0 : ¬ b = 0 := fun z => by
    rw [z] at hb
    exact absurd hb.1 (by decide)
  refine i_X12_isBeyond (s_collect (I := u2 I 42 59 0) (c := c) (p := p1) (s0 := 0) hc h1 hp1 z0.symm (by omega) (fun f1 F1 k1 k2 => rV_in (s_collect (I := u2 (u2 I 42 59 0) 42 59 (nI (0 + p1))) (J := u1 (u1 J 87 f1) 88 F1) (c := d) (p := p2) (s0 := p1) hd h2 hp2 (by
    show u2 (u2 I 42 59 0) 42 59 (nI (0 + p1)) 42 59 = nI p1
    rw [u2_at, if_pos rfl, Nat.zero_add]) (by omega) (fun f2 F2 k3 k4 => rV_in ?_))))
  have r87 : u1 (u1 J 87 f1) 88 F1 87 = f1 := by rw [u1_ne _ _ (by decide), u1_at]
  have r88 : u1 (u1 J 87 f1) 88 F1 88 = F1 := u1_at _ _ _
  have r85 : u1 (u1 J 87 f1) 88 F1 85 = J 85 := by rw [u1_ne _ _ (by decide), u1_ne _ _ (by decide)]
  have r86 : u1 (u1 J 87 f1) 88 F1 86 = J 86 := by rw [u1_ne _ _ (by decide), u1_ne _ _ (by decide)]
  rw [r87, r88] at k3
  rw [r85, r86] at k4
  have c1 : ∀ k, k < p1 → cOv c (S, I, J, R, nn) k = f2 k ∧ cUn c (S, I, J, R, nn) k = F2 k := fun k hk => by
    have e : 0 + k = k := Nat.zero_add k
    obtain ⟨x1, x2⟩ := k2 k hk
    obtain ⟨x3, x4⟩ := k3 k hk
    exact ⟨(x1.symm : J 85 (80 * c + k) = f1 (0 + k)).trans ((congrArg f1 e).trans x3.symm), (x2.symm : J 86 (80 * c + k) = F1 (0 + k)).trans ((congrArg F1 e).trans x4.symm)⟩
  have c2 : ∀ k, k < p2 → cOv d (S, I, J, R, nn) k = (fun k => f2 (p1 + k)) k ∧ cUn d (S, I, J, R, nn) k = (fun k => F2 (p1 + k)) k := fun k hk => by
    obtain ⟨x1, x2⟩ := k4 k hk
    exact ⟨x1.symm, x2.symm⟩
  obtain ⟨e1, e2⟩ := fN_cong c1
  obtain ⟨e3, e4⟩ := fN_cong c2
  rw [e1, e2] at n1
  rw [e3, e4] at n2
  have gg1 := goodP_cong c1 g1
  have gg2 := goodP_cong c2 g2
  have hg : goodP f2 F2 (p1 + p2) := fun k hk => by
    rcases Nat.lt_or_ge k p1 with w | w
    · exact gg1 k w
    · have := gg2 (k - p1) (by omega)
      have e : p1 + (k - p1) = k := by omega
      show 0 ≤ (f2 k).toInt ∧ (f2 k).toInt < (F2 k).toInt ∧ (F2 k).toInt ≤ 200000000
      rw [← e]; exact this
  have hD1 := fD_pos gg1
  have hD2 := fD_pos gg2
  rw [Nat.zero_add, u2_2, u2_2]
  have e59 : ∀ J', xI (S, u2 I 42 59 (nI p1), J', R, nn) 42 59 = nI p1 := fun J' => by
    show u2 I 42 59 (nI p1) 42 59 = nI p1
    rw [u2_at, if_pos rfl]
  rw [e59]
  have frJ : ∀ {e : Int32} {w1 w2 : Nat → Int64} {X' : AX}, FrB (S, u2 I 42 59 e, u1 (u1 (u1 (u1 J 87 f1) 88 F1) 87 w1) 88 w2, R, nn) X' → FrB (S, I, J, R, nn) X' := fun {e w1 w2 X'} h => by
    refine FrB.trans (Y := (S, u2 I 42 59 e, u1 (u1 (u1 (u1 J 87 f1) 88 F1) 87 w1) 88 w2, R, nn)) ⟨rfl, rfl, rfl, fun i hi => u2_ne _ _ _ hi, fun j x1 x2 => ?_, fun i hi => ?_⟩ h
    · show u2 I 42 59 e 42 j = I 42 j
      rw [u2_at, if_neg x1]
    · show u1 (u1 (u1 (u1 J 87 f1) 88 F1) 87 w1) 88 w2 i = J i
      rw [u1_ne _ _ (by omega), u1_ne _ _ (by omega), u1_ne _ _ (by omega), u1_ne _ _ (by omega)]
  have eq := n_div (x := a) (y := b) ha.1 (by omega)
  have er := n_rem (x := a) (y := b) ha.1 (by omega)
  have hdm := Int.mul_ediv_add_emod a.toInt b.toInt
  have rr0 := Int.emod_nonneg a.toInt (show b.toInt ≠ 0 by omega)
  have rr1 := Int.emod_lt_of_pos a.toInt (show 0 < b.toInt by omega)
  have e0 : (0 : Int32).toInt = 0 := by decide
  have nq := near_eq (s1 := (I 67 c).toInt) (s2 := (I 67 d).toInt) (a := a.toInt) (b := b.toInt) hD1 hD2 hB1 hB2 n1 n2
  have q := bey_loop (S := S) (I := u2 I 42 59 (nI (p1 + p2))) (J := u1 (u1 (u1 (u1 J 87 f1) 88 F1) 87 f2) 88 F2) (R := R) (nn := nn) (c := c) (d := d) (a := a) (b := b) (l5 := nI p1) (K := K) (KX := KX) (g := f2) (G := F2) hp1 hp2 (by rw [u2_at, if_pos rfl]) (u1_at _ _ _) hg (fun h lk hv => ?_) p2 0 f2 0 (by omega) ⟨fun _ _ => rfl, fun k hk => ⟨(hg k (by omega)).1, (hg k (by omega)).2.1⟩, Nat.le_refl _, ?_⟩
  · rw [z0, show u1 (u1 (u1 (u1 (u1 J 87 f1) 88 F1) 87 f2) 88 F2) 87 f2 = u1 (u1 (u1 (u1 J 87 f1) 88 F1) 87 f2) 88 F2 by rw [u1_cm _ (by decide), u1_1]] at q
    exact q
  · obtain ⟨v1, v2, v3, v4⟩ := hv
    have hgh : goodP h F2 (p1 + p2) := fun k hk => ⟨(v2 k hk).1, (v2 k hk).2, (hg k hk).2.2⟩
    have eJ : u1 (u1 (u1 (u1 (u1 J 87 f1) 88 F1) 87 f2) 88 F2) 87 h = u1 (u1 (u1 (u1 J 87 f1) 88 F1) 87 h) 88 F2 := by rw [u1_cm _ (by decide), u1_1]
    rw [eJ]
    have j87 : u1 (u1 (u1 (u1 J 87 f1) 88 F1) 87 h) 88 F2 87 = h := by rw [u1_ne _ _ (by decide), u1_at]
    have j88 : u1 (u1 (u1 (u1 J 87 f1) 88 F1) 87 h) 88 F2 88 = F2 := u1_at _ _ _
    have hDD : fD F2 (p1 + p2) = fD F2 p1 * fD (fun k => F2 (p1 + k)) p2 := fD_add p2
    generalize hA1 : fN' f2 F2 p1 = N1 at *
    generalize hA2 : fN' (fun k => f2 (p1 + k)) (fun k => F2 (p1 + k)) p2 = N2 at *
    generalize hA3 : fD F2 p1 = D1 at *
    generalize hA4 : fD (fun k => F2 (p1 + k)) p2 = D2 at *
    refine e_X12_isBeyond_83 ⟨hb0, fun w => ?_, fun w => ⟨hb0, ?_, ?_, ?_⟩⟩
    · have w0 : a.toInt % b.toInt = 0 := by rw [← er, w]; exact e0
      refine bey_132 (E := D1 * D2 * (((I 67 c).toInt - (I 72 c).toInt - (I 67 d).toInt + (I 72 d).toInt) * b.toInt - b.toInt - a.toInt) + (N1 * D2 - N2 * D1) * b.toInt) (n := p1 + p2) (lk := lk) hc hd hb ha (by omega) (by omega) (by rw [u2_at, if_pos rfl]) j87 j88 hgh s1 s2 m1 m2 ?_ (fun X' y hF hy => hK X' y (frJ hF) (by rw [nq] at hy; exact hy))
      show (0 < ((I 67 c).toInt - (I 72 c).toInt - (I 67 d).toInt + (I 72 d).toInt - 1 - a.toInt / b.toInt - lk) * fD F2 (p1 + p2) + fN' h F2 (p1 + p2)) ↔ _
      rw [v4, hDD]
      have ea : a.toInt = b.toInt * (a.toInt / b.toInt) := by omega
      generalize a.toInt / b.toInt = Q at ea
      rw [ea]
      have key : (((I 67 c).toInt - (I 72 c).toInt - (I 67 d).toInt + (I 72 d).toInt - 1 - Q - lk) * (D1 * D2) + (N1 * D2 - N2 * D1 + (lk : Int) * (D1 * D2))) * b.toInt = D1 * D2 * (((I 67 c).toInt - (I 72 c).toInt - (I 67 d).toInt + (I 72 d).toInt) * b.toInt - b.toInt - b.toInt * Q) + (N1 * D2 - N2 * D1) * b.toInt := by grind
      rw [← key]
      constructor
      · intro x; exact Int.mul_pos x (by omega)
      · intro x
        have x1 : 0 * b.toInt < (((I 67 c).toInt - (I 72 c).toInt - (I 67 d).toInt + (I 72 d).toInt - 1 - Q - lk) * (D1 * D2) + (N1 * D2 - N2 * D1 + (lk : Int) * (D1 * D2))) * b.toInt := by rw [Int.zero_mul]; exact x
        exact Int.lt_of_mul_lt_mul_right x1 (by omega)
    · show vp_in (u2 I 42 59 (nI (p1 + p2)) 42 59) 170
      rw [u2_at, if_pos rfl]; exact vp_in_nI (by omega) (by decide)
    · show vp_in (u2 I 42 59 (nI (p1 + p2)) 42 59) 170
      rw [u2_at, if_pos rfl]; exact vp_in_nI (by omega) (by decide)
    · have w0 : ¬ a.toInt % b.toInt = 0 := fun y => w (Int32.toInt_inj.mp (by rw [er, e0]; exact y))
      have x59 : xI (S, u2 I 42 59 (nI (p1 + p2)), u1 (u1 (u1 (u1 J 87 f1) 88 F1) 87 h) 88 F2, R, nn) 42 59 = nI (p1 + p2) := by
        show u2 I 42 59 (nI (p1 + p2)) 42 59 = _
        rw [u2_at, if_pos rfl]
      rw [x59, nI_clamp (by omega), nI_1, nI_1]
      show r_X12_isBeyond tb0 K KX 132 _ [] (S, u2 (u2 I 42 59 (nI (p1 + p2))) 42 59 (nI (p1 + p2 + 1)), u2 (u2 (u1 (u1 (u1 (u1 J 87 f1) 88 F1) 87 h) 88 F2) 87 (p1 + p2) (Int32.toInt64 (b - (a - a / b * b)))) 88 (p1 + p2) (Int32.toInt64 b), R, nn) 0 0
      have eb : (b - (a - a / b * b)).toInt = b.toInt - a.toInt % b.toInt := by rw [n_sub] <;> rw [er] <;> omega
      have eJ2 : u2 (u2 (u1 (u1 (u1 (u1 J 87 f1) 88 F1) 87 h) 88 F2) 87 (p1 + p2) (Int32.toInt64 (b - (a - a / b * b)))) 88 (p1 + p2) (Int32.toInt64 b) = u1 (u1 (u1 (u1 J 87 f1) 88 F1) 87 (stf h (p1 + p2) (Int32.toInt64 (b - (a - a / b * b))))) 88 (stf F2 (p1 + p2) (Int32.toInt64 b)) := by
        rw [u1_cm _ (by decide) h F2, u2_u1, u1_cm _ (by decide) F2, u2_u1]
      rw [u2_2, eJ2]
      have k87 : u1 (u1 (u1 (u1 J 87 f1) 88 F1) 87 (stf h (p1 + p2) (Int32.toInt64 (b - (a - a / b * b))))) 88 (stf F2 (p1 + p2) (Int32.toInt64 b)) 87 = stf h (p1 + p2) (Int32.toInt64 (b - (a - a / b * b))) := by rw [u1_ne _ _ (by decide), u1_at]
      have k88 : u1 (u1 (u1 (u1 J 87 f1) 88 F1) 87 (stf h (p1 + p2) (Int32.toInt64 (b - (a - a / b * b))))) 88 (stf F2 (p1 + p2) (Int32.toInt64 b)) 88 = stf F2 (p1 + p2) (Int32.toInt64 b) := u1_at _ _ _
      have hgh2 : goodP (stf h (p1 + p2) (Int32.toInt64 (b - (a - a / b * b)))) (stf F2 (p1 + p2) (Int32.toInt64 b)) (p1 + p2 + 1) := fun k hk => by
        by_cases y : k = p1 + p2
        · rw [y, stf_at, stf_at, n_i2l, n_i2l, eb]; omega
        · rw [stf_ne _ _ y, stf_ne _ _ y]; exact hgh k (by omega)
      refine bey_132 (E := D1 * D2 * (((I 67 c).toInt - (I 72 c).toInt - (I 67 d).toInt + (I 72 d).toInt) * b.toInt - b.toInt - a.toInt) + (N1 * D2 - N2 * D1) * b.toInt) (n := p1 + p2 + 1) (lk := lk + 1) hc hd hb ha (by omega) (by omega) (by rw [u2_at, if_pos rfl]) k87 k88 hgh2 s1 s2 m1 m2 ?_ (fun X' y hF hy => hK X' y (frJ hF) (by rw [nq] at hy; exact hy))
      show (0 < ((I 67 c).toInt - (I 72 c).toInt - (I 67 d).toInt + (I 72 d).toInt - 1 - a.toInt / b.toInt - ((lk + 1 : Nat) : Int)) * fD (stf F2 (p1 + p2) (Int32.toInt64 b)) (p1 + p2 + 1) + fN' (stf h (p1 + p2) (Int32.toInt64 (b - (a - a / b * b)))) (stf F2 (p1 + p2) (Int32.toInt64 b)) (p1 + p2 + 1)) ↔ _
      obtain ⟨y1, y2⟩ := fN_cong (f := stf h (p1 + p2) (Int32.toInt64 (b - (a - a / b * b)))) (g := stf F2 (p1 + p2) (Int32.toInt64 b)) (f' := h) (g' := F2) (n := p1 + p2) (fun k hk => ⟨stf_ne _ _ (by omega), stf_ne _ _ (by omega)⟩)
      rw [fD, fN', y1, y2, stf_at, stf_at, n_i2l, n_i2l, eb, v4, hDD]
      have el : ((lk + 1 : Nat) : Int) = (lk : Int) + 1 := by omega
      rw [el]
      have ea : a.toInt = b.toInt * (a.toInt / b.toInt) + a.toInt % b.toInt := by omega
      generalize hQ : a.toInt / b.toInt = Q at ea
      generalize hr : a.toInt % b.toInt = r at ea
      rw [ea]
      have key : ((I 67 c).toInt - (I 72 c).toInt - (I 67 d).toInt + (I 72 d).toInt - 1 - Q - ((lk : Int) + 1)) * (D1 * D2 * b.toInt) + ((N1 * D2 - N2 * D1 + (lk : Int) * (D1 * D2)) * b.toInt + D1 * D2 * (b.toInt - r)) = D1 * D2 * (((I 67 c).toInt - (I 72 c).toInt - (I 67 d).toInt + (I 72 d).toInt) * b.toInt - b.toInt - (b.toInt * Q + r)) + (N1 * D2 - N2 * D1) * b.toInt := by grind
      rw [key]
  · show fN' f2 F2 p1 = fN' f2 F2 p1 * 1 - 0 * fD F2 p1 + ((0 : Nat) : Int) * (fD F2 p1 * 1)
    rw [Int.mul_one, Int.zero_mul]
    omega
end Bey
