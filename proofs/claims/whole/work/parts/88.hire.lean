/-! hire: the relation behind it -/
section Ops
variable {L : Nat} {xs : Nat → Int32} {t n s h l : Nat} {X : AX} {K : Option AV → AX → Prop} {KX : String → AX → Prop}
set_option maxHeartbeats 4000000 in
theorem rel_hire (ht : t < 600) (H : Rel L xs t n s h l X) (h6 : (xI X 14 6).toInt = 0) {z mi se : Int32} {d q k : Nat} {y y' : Int32} {X1 X4 : AX} {v : Int64} (hkn : k < n) (hd : rlT1 X k d) (hq : q < 5) (hkd : xI X 45 k = nI q) (hmi : 0 ≤ mi.toInt ∧ mi.toInt ≤ 1439) (hse : 0 ≤ se.toInt ∧ se.toInt ≤ 59) (hy : allW (xI X 12) s y) (hStd : Std 15 d q k (mi * 60 + se) (xI X 4 1) (oX X d z y) X1) (hB : Bgn 0 k q z (60 * mi + se) (xS X1, u2 (u2 (xI X1) 4 9 (xI X1 4 9 + 1)) 42 0 0, u2 (xJ X1) 91 0 v, xR X1, xN X1) X4) (hy' : allW (xI X4 49) s y') : Rel L xs (t + 1) n s (h + 1) l (xS X4, u2 (u2 (u2 (u2 (u2 (xI X4) 58 0 (xI X4 42 7)) 42 7 (xI X4 42 7 + 1)) 42 14 1) 42 18 (xI X4 42 6)) 42 19 y', xJ X4, xR X4, xN X4) := by
  obtain ⟨hS, hW, hR, hT, hL, hE, hKk, hH, hC, hG⟩ := H
  obtain ⟨a1, a2, a3, aP, aI, aJ, b2, b3, b4, b7, b8, b9, b10, b11, b12, b13, b14, b5, b6⟩ := hStd
  obtain ⟨e1, e2, e3, eI, eJ, eIj, eJj, e81x, d59, d60, d61, d62, d63, d64, d65, d66, d67, d68, d69, d70, d72, d73, d78, d79, d80, d74, d75, d76, d77, d81⟩ := hB
  obtain ⟨t1, t2, t3, -, t6, t7, t8⟩ := id hd
  have hn12 := hT.2.2.1
  have oI : ∀ i, i ≠ 14 → (u2 (u2 (u2 (u2 (u2 (u2 (u2 (u2 (xI X) 14 5 (xI X 4 9)) 14 6 1) 14 7 z) 14 8 (-1)) 14 9 (xI X 11 2)) 14 10 y) 14 11 0) 14 12 0) i = xI X i := fun i hi => by
    rw [u2_ne _ _ _ hi, u2_ne _ _ _ hi, u2_ne _ _ _ hi, u2_ne _ _ _ hi, u2_ne _ _ _ hi, u2_ne _ _ _ hi, u2_ne _ _ _ hi, u2_ne _ _ _ hi]
  have x1 : ∀ i, i ≠ 14 → (i < 15 ∨ 19 < i) → xI X1 i = xI X i := fun i h1 h2 => (aI i (by omega) (by omega) (by omega) (by omega) (by omega)).trans (oI i h1)
  have zI : ∀ i, i ≠ 4 → i ≠ 42 → (u2 (u2 (xI X1) 4 9 (xI X1 4 9 + 1)) 42 0 0) i = xI X1 i := fun i h1 h2 => by rw [u2_ne _ _ _ h2, u2_ne _ _ _ h1]
  have yI : ∀ i, i ≠ 42 → i ≠ 58 → (u2 (u2 (u2 (u2 (u2 (xI X4) 58 0 (xI X4 42 7)) 42 7 (xI X4 42 7 + 1)) 42 14 1) 42 18 (xI X4 42 6)) 42 19 y') i = xI X4 i := fun i h1 h2 => by
    rw [u2_ne _ _ _ h1, u2_ne _ _ _ h1, u2_ne _ _ _ h1, u2_ne _ _ _ h1, u2_ne _ _ _ h2]
  have rowX : ∀ i, i ≠ 4 → i ≠ 14 → (i < 15 ∨ 19 < i) → i ≠ 42 → i ≠ 58 → (i < 59 ∨ 73 < i) → (i < 78 ∨ 81 < i) → (u2 (u2 (u2 (u2 (u2 (xI X4) 58 0 (xI X4 42 7)) 42 7 (xI X4 42 7 + 1)) 42 14 1) 42 18 (xI X4 42 6)) 42 19 y') i = xI X i := fun i h1 h2 h3 h4 h5 h7 h8 => (yI i h4 h5).trans ((eI i h7 h8).trans ((zI i h1 h4).trans (x1 i h2 h3)))
  have x4 : xI X4 42 = (u2 (u2 (xI X1) 4 9 (xI X1 4 9 + 1)) 42 0 0) 42 := eI 42 (by decide) (by decide)
  have x42 : ∀ j, j ≠ 0 → xI X4 42 j = xI X 42 j := fun j hj => by
    rw [x4, u2_at, if_neg hj, u2_ne _ _ _ (by decide), x1 42 (by decide) (by decide)]
  have r4 : (u2 (u2 (u2 (u2 (u2 (xI X4) 58 0 (xI X4 42 7)) 42 7 (xI X4 42 7 + 1)) 42 14 1) 42 18 (xI X4 42 6)) 42 19 y') 4 = stf (xI X 4) 9 (xI X 4 9 + 1) := by
    rw [yI 4 (by decide) (by decide)]
    refine (eI 4 (by decide) (by decide)).trans ?_
    show (u2 (u2 (xI X1) 4 9 (xI X1 4 9 + 1)) 42 0 0) 4 = _
    rw [u2_ne _ _ _ (by decide)]
    funext j
    rw [u2_at, x1 4 (by decide) (by decide)]; rfl
  have r14 : (u2 (u2 (u2 (u2 (u2 (xI X4) 58 0 (xI X4 42 7)) 42 7 (xI X4 42 7 + 1)) 42 14 1) 42 18 (xI X4 42 6)) 42 19 y') 14 = (u2 (u2 (u2 (u2 (u2 (u2 (u2 (u2 (xI X) 14 5 (xI X 4 9)) 14 6 1) 14 7 z) 14 8 (-1)) 14 9 (xI X 11 2)) 14 10 y) 14 11 0) 14 12 0) 14 := by
    rw [yI 14 (by decide) (by decide)]
    refine (eI 14 (by decide) (by decide)).trans ((zI 14 (by decide) (by decide)).trans ?_)
    exact aI 14 (by decide) (by decide) (by decide) (by decide) (by decide)
  have r15 : ∀ i, 15 ≤ i → i ≤ 19 → (u2 (u2 (u2 (u2 (u2 (xI X4) 58 0 (xI X4 42 7)) 42 7 (xI X4 42 7 + 1)) 42 14 1) 42 18 (xI X4 42 6)) 42 19 y') i = xI X1 i := fun i h1 h2 => (yI i (by omega) (by omega)).trans ((eI i (by omega) (by omega)).trans (zI i (by omega) (by omega)))
  have hN4 : xN X4 = xN X := e2.trans a2
  have hS4 : xS X4 = xS X := e1.trans a1
  have hR4 : xR X4 = u2 (u2 (xR X) 14 4 (some d)) 15 1 (some d) := e3.trans a3
  have h92 := hS.2.2.2.2.2
  have hh := hH.2.2.1
  have hi : ∀ i, 92 ≤ i → (u2 (u2 (u2 (u2 (u2 (xI X4) 58 0 (xI X4 42 7)) 42 7 (xI X4 42 7 + 1)) 42 14 1) 42 18 (xI X4 42 6)) 42 19 y') i = xI X i := fun i h => rowX i (by omega) (by omega) (by omega) (by omega) (by omega) (by omega) (by omega)
  have tt : (60 : Int32) * mi + se = mi * 60 + se := by rw [Int32.mul_comm]
  have tmi : (mi * 60 + se).toInt = mi.toInt * 60 + se.toInt := by
    have e60 : (60 : Int32).toInt = 60 := by decide
    have q1 : (mi * 60).toInt = mi.toInt * 60 := by rw [n_mul] <;> rw [e60] <;> omega
    rw [n_add] <;> rw [q1] <;> omega
  have yy : y = y' := allW_uniq (fun j hj => by
    have q := (hE.2.2.2 j (by have := hE.2.2.1; omega)).1
    have q2 : xI X4 49 = xI X 49 := (eI 49 (by decide) (by decide)).trans ((zI 49 (by decide) (by decide)).trans (x1 49 (by decide) (by decide)))
    rw [q2]; exact q.symm) hy hy'
  have k46 : ∀ j, j < 15 → xI X (d + 1) j = (u2 (u2 (xI X1) 4 9 (xI X1 4 9 + 1)) 42 0 0) 46 (15 * k + j) := fun j hj => by
    rw [zI 46 (by decide) (by decide), x1 46 (by decide) (by decide)]; exact (t8 j hj).1
  have od : ∀ j, (u2 (u2 (u2 (u2 (u2 (u2 (u2 (u2 (xI X) 14 5 (xI X 4 9)) 14 6 1) 14 7 z) 14 8 (-1)) 14 9 (xI X 11 2)) 14 10 y) 14 11 0) 14 12 0) (d + 1) j = xI X (d + 1) j := fun j => by rw [oI (d + 1) (by omega)]
  refine ⟨rlS_n (X := X) hS hS4 (rowX 0 (by decide) (by decide) (by decide) (by decide) (by decide) (by decide) (by decide)) (rowX 1 (by decide) (by decide) (by decide) (by decide) (by decide) (by decide) (by decide)) (rowX 2 (by decide) (by decide) (by decide) (by decide) (by decide) (by decide) (by decide)) (rowX 3 (by decide) (by decide) (by decide) (by decide) (by decide) (by decide) (by decide)) (by show xN X ≤ xN X4; omega), rlW_fr (X := X) (by show (u2 (u2 (u2 (u2 (u2 (xI X4) 58 0 (xI X4 42 7)) 42 7 (xI X4 42 7 + 1)) 42 14 1) 42 18 (xI X4 42 6)) 42 19 y') 4 0 = _; rw [r4]; rfl) (by show (u2 (u2 (u2 (u2 (u2 (xI X4) 58 0 (xI X4 42 7)) 42 7 (xI X4 42 7 + 1)) 42 14 1) 42 18 (xI X4 42 6)) 42 19 y') 4 1 = _; rw [r4]; rfl) (x42 1 (by decide)) (x42 2 (by decide)) hW, rlR_fr (X := X) (rowX 6 (by decide) (by decide) (by decide) (by decide) (by decide) (by decide) (by decide)) (rowX 7 (by decide) (by decide) (by decide) (by decide) (by decide) (by decide) (by decide)) (rowX 43 (by decide) (by decide) (by decide) (by decide) (by decide) (by decide) (by decide)) (rowX 44 (by decide) (by decide) (by decide) (by decide) (by decide) (by decide) (by decide)) hR, rlT_fr (X := X) hi (rowX 45 (by decide) (by decide) (by decide) (by decide) (by decide) (by decide) (by decide)) (rowX 46 (by decide) (by decide) (by decide) (by decide) (by decide) (by decide) (by decide)) ?_ hS4 (by show xN X ≤ xN X4; omega) (by show (u2 (u2 (u2 (u2 (u2 (xI X4) 58 0 (xI X4 42 7)) 42 7 (xI X4 42 7 + 1)) 42 14 1) 42 18 (xI X4 42 6)) 42 19 y') 4 4 = _; rw [r4]; rfl) (x42 5 (by decide)) hT, rlL_fr (X := X) (rowX 9 (by decide) (by decide) (by decide) (by decide) (by decide) (by decide) (by decide)) (rowX 10 (by decide) (by decide) (by decide) (by decide) (by decide) (by decide) (by decide)) (rowX 47 (by decide) (by decide) (by decide) (by decide) (by decide) (by decide) (by decide)) (rowX 48 (by decide) (by decide) (by decide) (by decide) (by decide) (by decide) (by decide)) hL, rlE_fr (X := X) (by show (u2 (u2 (u2 (u2 (u2 (xI X4) 58 0 (xI X4 42 7)) 42 7 (xI X4 42 7 + 1)) 42 14 1) 42 18 (xI X4 42 6)) 42 19 y') 11 2 = _; rw [rowX 11 (by decide) (by decide) (by decide) (by decide) (by decide) (by decide) (by decide)]) (x42 6 (by decide)) (rowX 12 (by decide) (by decide) (by decide) (by decide) (by decide) (by decide) (by decide)) (rowX 13 (by decide) (by decide) (by decide) (by decide) (by decide) (by decide) (by decide)) (rowX 49 (by decide) (by decide) (by decide) (by decide) (by decide) (by decide) (by decide)) (rowX 50 (by decide) (by decide) (by decide) (by decide) (by decide) (by decide) (by decide)) hE, rlK_fr (X := X) (by show (u2 (u2 (u2 (u2 (u2 (xI X4) 58 0 (xI X4 42 7)) 42 7 (xI X4 42 7 + 1)) 42 14 1) 42 18 (xI X4 42 6)) 42 19 y') 34 2 = _; rw [rowX 34 (by decide) (by decide) (by decide) (by decide) (by decide) (by decide) (by decide)]) (by show (u2 (u2 (u2 (u2 (u2 (xI X4) 58 0 (xI X4 42 7)) 42 7 (xI X4 42 7 + 1)) 42 14 1) 42 18 (xI X4 42 6)) 42 19 y') 34 3 = _; rw [rowX 34 (by decide) (by decide) (by decide) (by decide) (by decide) (by decide) (by decide)]) (x42 25 (by decide)) (rowX 35 (by decide) (by decide) (by decide) (by decide) (by decide) (by decide) (by decide)) (rowX 36 (by decide) (by decide) (by decide) (by decide) (by decide) (by decide) (by decide)) (rowX 56 (by decide) (by decide) (by decide) (by decide) (by decide) (by decide) (by decide)) (rowX 57 (by decide) (by decide) (by decide) (by decide) (by decide) (by decide) (by decide)) hKk, ?_, ?_, ?_⟩
  · show xR X4 8 = _
    rw [hR4, u2_ne _ _ _ (by decide), u2_ne _ _ _ (by decide)]
  · have y6 : (u2 (u2 (u2 (u2 (u2 (xI X4) 58 0 (xI X4 42 7)) 42 7 (xI X4 42 7 + 1)) 42 14 1) 42 18 (xI X4 42 6)) 42 19 y') 14 6 = 1 := by rw [r14]; rfl
    refine ⟨?_, ?_, by omega, ?_, ?_, fun _ => by omega, fun w => absurd w ?_, ?_, ?_, ?_, fun _ => ⟨?_, ?_, ?_, ?_, ?_, ?_, ?_, ?_⟩⟩
    · show (u2 (u2 (u2 (u2 (u2 (xI X4) 58 0 (xI X4 42 7)) 42 7 (xI X4 42 7 + 1)) 42 14 1) 42 18 (xI X4 42 6)) 42 19 y') 4 9 = _
      rw [r4, stf_at, hH.1, nI_1]
    · show xI X4 42 7 + 1 = _
      rw [x42 7 (by decide), hH.2.1, nI_1]
    · show (1 : Int32) = (u2 (u2 (u2 (u2 (u2 (xI X4) 58 0 (xI X4 42 7)) 42 7 (xI X4 42 7 + 1)) 42 14 1) 42 18 (xI X4 42 6)) 42 19 y') 14 6
      rw [y6]
    · show bl ((u2 (u2 (u2 (u2 (u2 (xI X4) 58 0 (xI X4 42 7)) 42 7 (xI X4 42 7 + 1)) 42 14 1) 42 18 (xI X4 42 6)) 42 19 y') 14 6)
      rw [y6]; exact Or.inr rfl
    · show ¬ ((u2 (u2 (u2 (u2 (u2 (xI X4) 58 0 (xI X4 42 7)) 42 7 (xI X4 42 7 + 1)) 42 14 1) 42 18 (xI X4 42 6)) 42 19 y') 14 6).toInt = 0
      rw [y6]; decide
    · show y' = (u2 (u2 (u2 (u2 (u2 (xI X4) 58 0 (xI X4 42 7)) 42 7 (xI X4 42 7 + 1)) 42 14 1) 42 18 (xI X4 42 6)) 42 19 y') 14 10
      rw [r14]; exact yy.symm
    · show bl ((u2 (u2 (u2 (u2 (u2 (xI X4) 58 0 (xI X4 42 7)) 42 7 (xI X4 42 7 + 1)) 42 14 1) 42 18 (xI X4 42 6)) 42 19 y') 14 10)
      rw [r14]
      show bl y
      rcases hy with ⟨w, -⟩ | ⟨w, -⟩
      · exact Or.inr w
      · exact Or.inl w
    · show xI X4 42 6 = (u2 (u2 (u2 (u2 (u2 (xI X4) 58 0 (xI X4 42 7)) 42 7 (xI X4 42 7 + 1)) 42 14 1) 42 18 (xI X4 42 6)) 42 19 y') 14 9
      rw [r14, x42 6 (by decide)]
      show xI X 42 6 = xI X 11 2
      rw [hE.1, hE.2.1]
    · show (u2 (u2 (u2 (u2 (u2 (xI X4) 58 0 (xI X4 42 7)) 42 7 (xI X4 42 7 + 1)) 42 14 1) 42 18 (xI X4 42 6)) 42 19 y') 14 5 = nI (h + 1 - 1)
      rw [r14]; exact hH.1
    · show xI X4 42 7 = nI (h + 1 - 1)
      rw [x42 7 (by decide)]; exact hH.2.1
    · show (u2 (u2 (u2 (u2 (u2 (xI X4) 58 0 (xI X4 42 7)) 42 7 (xI X4 42 7 + 1)) 42 14 1) 42 18 (xI X4 42 6)) 42 19 y') 60 0 = (u2 (u2 (u2 (u2 (u2 (xI X4) 58 0 (xI X4 42 7)) 42 7 (xI X4 42 7 + 1)) 42 14 1) 42 18 (xI X4 42 6)) 42 19 y') 14 7
      rw [r14, yI 60 (by decide) (by decide), d60]; rfl
    · show (u2 (u2 (u2 (u2 (u2 (xI X4) 58 0 (xI X4 42 7)) 42 7 (xI X4 42 7 + 1)) 42 14 1) 42 18 (xI X4 42 6)) 42 19 y') 61 0 = (u2 (u2 (u2 (u2 (u2 (xI X4) 58 0 (xI X4 42 7)) 42 7 (xI X4 42 7 + 1)) 42 14 1) 42 18 (xI X4 42 6)) 42 19 y') 14 8
      rw [r14, yI 61 (by decide) (by decide), d61]; rfl
    · show (u2 (u2 (u2 (u2 (u2 (xI X4) 58 0 (xI X4 42 7)) 42 7 (xI X4 42 7 + 1)) 42 14 1) 42 18 (xI X4 42 6)) 42 19 y') 79 0 = (u2 (u2 (u2 (u2 (u2 (xI X4) 58 0 (xI X4 42 7)) 42 7 (xI X4 42 7 + 1)) 42 14 1) 42 18 (xI X4 42 6)) 42 19 y') 14 11
      rw [r14, yI 79 (by decide) (by decide), d79]; rfl
    · show bl ((u2 (u2 (u2 (u2 (u2 (xI X4) 58 0 (xI X4 42 7)) 42 7 (xI X4 42 7 + 1)) 42 14 1) 42 18 (xI X4 42 6)) 42 19 y') 14 11)
      rw [r14]; exact Or.inl rfl
    · show (u2 (u2 (u2 (u2 (u2 (xI X4) 58 0 (xI X4 42 7)) 42 7 (xI X4 42 7 + 1)) 42 14 1) 42 18 (xI X4 42 6)) 42 19 y') 80 0 = (u2 (u2 (u2 (u2 (u2 (xI X4) 58 0 (xI X4 42 7)) 42 7 (xI X4 42 7 + 1)) 42 14 1) 42 18 (xI X4 42 6)) 42 19 y') 14 12
      rw [r14, yI 80 (by decide) (by decide), d80]; rfl
    · show bl ((u2 (u2 (u2 (u2 (u2 (xI X4) 58 0 (xI X4 42 7)) 42 7 (xI X4 42 7 + 1)) 42 14 1) 42 18 (xI X4 42 6)) 42 19 y') 14 12)
      rw [r14]; exact Or.inl rfl
  · have y6 : (u2 (u2 (u2 (u2 (u2 (xI X4) 58 0 (xI X4 42 7)) 42 7 (xI X4 42 7 + 1)) 42 14 1) 42 18 (xI X4 42 6)) 42 19 y') 14 6 = 1 := by rw [r14]; rfl
    have n1 : nEnd (h + 1) (xS X4, u2 (u2 (u2 (u2 (u2 (xI X4) 58 0 (xI X4 42 7)) 42 7 (xI X4 42 7 + 1)) 42 14 1) 42 18 (xI X4 42 6)) 42 19 y', xJ X4, xR X4, xN X4) = h := by
      show (if ((u2 (u2 (u2 (u2 (u2 (xI X4) 58 0 (xI X4 42 7)) 42 7 (xI X4 42 7 + 1)) 42 14 1) 42 18 (xI X4 42 6)) 42 19 y') 14 6).toInt = 0 then h + 1 else h + 1 - 1) = h
      rw [y6]; rfl
    have n0 : nEnd h X = h := by unfold nEnd; rw [if_pos h6]
    obtain ⟨rid, len, c1, c2, c3, c4, c5, c6, c7, c8, c9⟩ := hC
    have hr : (u2 (u2 (u2 (u2 (u2 (xI X4) 58 0 (xI X4 42 7)) 42 7 (xI X4 42 7 + 1)) 42 14 1) 42 18 (xI X4 42 6)) 42 19 y') rid = xI X rid := by
      rcases c2 with w | w
      · rw [w]; exact rowX 23 (by decide) (by decide) (by decide) (by decide) (by decide) (by decide) (by decide)
      · exact hi rid w
    rw [n0] at c7 c8 c9
    refine ⟨rid, len, ?_, c2, by show rid < xN X4; omega, ?_, c5, c6, by rw [n1]; exact c7, ?_, ?_⟩
    · show xR X4 4 10 = _
      rw [hR4, u2_ne _ _ _ (by decide), u2_ne _ _ _ (by decide)]; exact c1
    · have : shp tb0 (xS X4, u2 (u2 (u2 (u2 (u2 (xI X4) 58 0 (xI X4 42 7)) 42 7 (xI X4 42 7 + 1)) 42 14 1) 42 18 (xI X4 42 6)) 42 19 y', xJ X4, xR X4, xN X4) rid = shp tb0 X rid := by
        unfold shp
        show (match tb0 rid with | some s => s | none => xS X4 rid) = _
        rw [hS4]; rfl
      rw [this]; exact c4
    · rw [n1]
      intro j hj
      show (u2 (u2 (u2 (u2 (u2 (xI X4) 58 0 (xI X4 42 7)) 42 7 (xI X4 42 7 + 1)) 42 14 1) 42 18 (xI X4 42 6)) 42 19 y') rid (4 * j) = (u2 (u2 (u2 (u2 (u2 (xI X4) 58 0 (xI X4 42 7)) 42 7 (xI X4 42 7 + 1)) 42 14 1) 42 18 (xI X4 42 6)) 42 19 y') 51 j ∧ (u2 (u2 (u2 (u2 (u2 (xI X4) 58 0 (xI X4 42 7)) 42 7 (xI X4 42 7 + 1)) 42 14 1) 42 18 (xI X4 42 6)) 42 19 y') rid (4 * j + 1) = (u2 (u2 (u2 (u2 (u2 (xI X4) 58 0 (xI X4 42 7)) 42 7 (xI X4 42 7 + 1)) 42 14 1) 42 18 (xI X4 42 6)) 42 19 y') 52 j ∧ (u2 (u2 (u2 (u2 (u2 (xI X4) 58 0 (xI X4 42 7)) 42 7 (xI X4 42 7 + 1)) 42 14 1) 42 18 (xI X4 42 6)) 42 19 y') rid (4 * j + 2) = (u2 (u2 (u2 (u2 (u2 (xI X4) 58 0 (xI X4 42 7)) 42 7 (xI X4 42 7 + 1)) 42 14 1) 42 18 (xI X4 42 6)) 42 19 y') 53 j ∧ (u2 (u2 (u2 (u2 (u2 (xI X4) 58 0 (xI X4 42 7)) 42 7 (xI X4 42 7 + 1)) 42 14 1) 42 18 (xI X4 42 6)) 42 19 y') rid (4 * j + 3) = (u2 (u2 (u2 (u2 (u2 (xI X4) 58 0 (xI X4 42 7)) 42 7 (xI X4 42 7 + 1)) 42 14 1) 42 18 (xI X4 42 6)) 42 19 y') 54 j ∧ bl ((u2 (u2 (u2 (u2 (u2 (xI X4) 58 0 (xI X4 42 7)) 42 7 (xI X4 42 7 + 1)) 42 14 1) 42 18 (xI X4 42 6)) 42 19 y') 54 j)
      rw [hr, rowX 51 (by decide) (by decide) (by decide) (by decide) (by decide) (by decide) (by decide), rowX 52 (by decide) (by decide) (by decide) (by decide) (by decide) (by decide) (by decide), rowX 53 (by decide) (by decide) (by decide) (by decide) (by decide) (by decide) (by decide), rowX 54 (by decide) (by decide) (by decide) (by decide) (by decide) (by decide) (by decide)]
      exact c8 j hj
    · rw [n1]
      intro j hj
      show (u2 (u2 (u2 (u2 (u2 (xI X4) 58 0 (xI X4 42 7)) 42 7 (xI X4 42 7 + 1)) 42 14 1) 42 18 (xI X4 42 6)) 42 19 y') 55 j = _
      rw [rowX 55 (by decide) (by decide) (by decide) (by decide) (by decide) (by decide) (by decide)]
      exact c9 j hj
  · have y6 : (u2 (u2 (u2 (u2 (u2 (xI X4) 58 0 (xI X4 42 7)) 42 7 (xI X4 42 7 + 1)) 42 14 1) 42 18 (xI X4 42 6)) 42 19 y') 14 6 = 1 := by rw [r14]; rfl
    have b14' := (t8 14 (by decide)).2
    have e14 : (aLst 14).toInt = 0 ∧ (aMst 14).toInt = 10000 := by decide
    unfold bnd at b14'
    have w1 := hW.2.1
    unfold bnd at w1
    have hw1 : (xI X 42 1).toInt = (xI X 4 0).toInt := congrArg Int32.toInt hW.1
    have q45 : (u2 (u2 (u2 (u2 (u2 (xI X4) 58 0 (xI X4 42 7)) 42 7 (xI X4 42 7 + 1)) 42 14 1) 42 18 (xI X4 42 6)) 42 19 y') 45 k = nI q := by rw [rowX 45 (by decide) (by decide) (by decide) (by decide) (by decide) (by decide) (by decide)]; exact hkd
    have cP : Pt (15 + 1) (xS X4, u2 (u2 (u2 (u2 (u2 (xI X4) 58 0 (xI X4 42 7)) 42 7 (xI X4 42 7 + 1)) 42 14 1) 42 18 (xI X4 42 6)) 42 19 y', xJ X4, xR X4, xN X4) 0 1 := by
      unfold Pt at aP ⊢
      rw [show xI (xS X4, u2 (u2 (u2 (u2 (u2 (xI X4) 58 0 (xI X4 42 7)) 42 7 (xI X4 42 7 + 1)) 42 14 1) 42 18 (xI X4 42 6)) 42 19 y', xJ X4, xR X4, xN X4) (15 + 1) = xI X1 (15 + 1) from r15 16 (by decide) (by decide), show xI (xS X4, u2 (u2 (u2 (u2 (u2 (xI X4) 58 0 (xI X4 42 7)) 42 7 (xI X4 42 7 + 1)) 42 14 1) 42 18 (xI X4 42 6)) 42 19 y', xJ X4, xR X4, xN X4) (15 + 1 + 1) = xI X1 (15 + 1 + 1) from r15 17 (by decide) (by decide), show xI (xS X4, u2 (u2 (u2 (u2 (u2 (xI X4) 58 0 (xI X4 42 7)) 42 7 (xI X4 42 7 + 1)) 42 14 1) 42 18 (xI X4 42 6)) 42 19 y', xJ X4, xR X4, xN X4) (15 + 1 + 2) = xI X1 (15 + 1 + 2) from r15 18 (by decide) (by decide)]
      exact aP
    have hall : mAll (t + 1) n 15 0 (xS X4, u2 (u2 (u2 (u2 (u2 (xI X4) 58 0 (xI X4 42 7)) 42 7 (xI X4 42 7 + 1)) 42 14 1) 42 18 (xI X4 42 6)) 42 19 y', xJ X4, xR X4, xN X4) := mAll_new (tm := mi * 60 + se) (w := xI X 4 1) (rd := xI X 42 1) (n1 := xI X (d + 1) 1) (e := eOf q (xI X (d + 1) 14)) (fr := (xI X (d + 1) 0).toInt64 + (eOf q (xI X (d + 1) 14)).toInt64) hkn hn12 hq ⟨by omega, by omega⟩ hW.2.2.2 ⟨by omega, by omega⟩ (eOf_bnd ⟨by omega, by omega⟩) q45 (by show (u2 (u2 (u2 (u2 (u2 (xI X4) 58 0 (xI X4 42 7)) 42 7 (xI X4 42 7 + 1)) 42 14 1) 42 18 (xI X4 42 6)) 42 19 y') 15 2 = _; rw [r15 15 (by decide) (by decide)]; exact b2) (by show (u2 (u2 (u2 (u2 (u2 (xI X4) 58 0 (xI X4 42 7)) 42 7 (xI X4 42 7 + 1)) 42 14 1) 42 18 (xI X4 42 6)) 42 19 y') 15 3 = _; rw [r15 15 (by decide) (by decide)]; exact b3) (by show (u2 (u2 (u2 (u2 (u2 (xI X4) 58 0 (xI X4 42 7)) 42 7 (xI X4 42 7 + 1)) 42 14 1) 42 18 (xI X4 42 6)) 42 19 y') 15 4 = _; rw [r15 15 (by decide) (by decide)]; exact b4) (by show (u2 (u2 (u2 (u2 (u2 (xI X4) 58 0 (xI X4 42 7)) 42 7 (xI X4 42 7 + 1)) 42 14 1) 42 18 (xI X4 42 6)) 42 19 y') 15 7 = _; rw [r15 15 (by decide) (by decide)]; exact b7) (by show (u2 (u2 (u2 (u2 (u2 (xI X4) 58 0 (xI X4 42 7)) 42 7 (xI X4 42 7 + 1)) 42 14 1) 42 18 (xI X4 42 6)) 42 19 y') 15 8 = _; rw [r15 15 (by decide) (by decide), b8]; show (u2 (u2 (u2 (u2 (u2 (u2 (u2 (u2 (xI X) 14 5 (xI X 4 9)) 14 6 1) 14 7 z) 14 8 (-1)) 14 9 (xI X 11 2)) 14 10 y) 14 11 0) 14 12 0) (d + 1) 1 - 1 = _; rw [od]) (by show (u2 (u2 (u2 (u2 (u2 (xI X4) 58 0 (xI X4 42 7)) 42 7 (xI X4 42 7 + 1)) 42 14 1) 42 18 (xI X4 42 6)) 42 19 y') 15 9 = _; rw [r15 15 (by decide) (by decide), b9]; show 0 + eOf q ((u2 (u2 (u2 (u2 (u2 (u2 (u2 (u2 (xI X) 14 5 (xI X 4 9)) 14 6 1) 14 7 z) 14 8 (-1)) 14 9 (xI X 11 2)) 14 10 y) 14 11 0) 14 12 0) (d + 1) 14) = _; rw [od]) (by show (u2 (u2 (u2 (u2 (u2 (xI X4) 58 0 (xI X4 42 7)) 42 7 (xI X4 42 7 + 1)) 42 14 1) 42 18 (xI X4 42 6)) 42 19 y') 15 10 = _; rw [r15 15 (by decide) (by decide)]; exact b10) (by show (u2 (u2 (u2 (u2 (u2 (xI X4) 58 0 (xI X4 42 7)) 42 7 (xI X4 42 7 + 1)) 42 14 1) 42 18 (xI X4 42 6)) 42 19 y') 15 11 = _; rw [r15 15 (by decide) (by decide)]; exact b11) (by show (u2 (u2 (u2 (u2 (u2 (xI X4) 58 0 (xI X4 42 7)) 42 7 (xI X4 42 7 + 1)) 42 14 1) 42 18 (xI X4 42 6)) 42 19 y') 15 12 = _; rw [r15 15 (by decide) (by decide)]; exact b12) (by show (u2 (u2 (u2 (u2 (u2 (xI X4) 58 0 (xI X4 42 7)) 42 7 (xI X4 42 7 + 1)) 42 14 1) 42 18 (xI X4 42 6)) 42 19 y') 15 13 = _; rw [r15 15 (by decide) (by decide)]; exact b13) (by show (u2 (u2 (u2 (u2 (u2 (xI X4) 58 0 (xI X4 42 7)) 42 7 (xI X4 42 7 + 1)) 42 14 1) 42 18 (xI X4 42 6)) 42 19 y') 15 14 = _; rw [r15 15 (by decide) (by decide)]; exact b14) (by show xJ X4 15 5 = 0; rw [eJ 15 (by decide)]; exact b5) (by show xJ X4 15 6 = _; rw [eJ 15 (by decide)]; refine Eq.trans (show _ = xJ X1 15 6 from rfl) ?_; rw [b6]; show ((u2 (u2 (u2 (u2 (u2 (u2 (u2 (u2 (xI X) 14 5 (xI X 4 9)) 14 6 1) 14 7 z) 14 8 (-1)) 14 9 (xI X 11 2)) 14 10 y) 14 11 0) 14 12 0) (d + 1) 0).toInt64 + (eOf q ((u2 (u2 (u2 (u2 (u2 (u2 (u2 (u2 (xI X) 14 5 (xI X 4 9)) 14 6 1) 14 7 z) 14 8 (-1)) 14 9 (xI X 11 2)) 14 10 y) 14 11 0) 14 12 0) (d + 1) 14)).toInt64 = _; rw [od, od]) cP (by show xR X4 15 1 = xR X4 8 k; rw [hR4, u2_at, if_pos rfl, u2_ne _ _ _ (by decide), u2_ne _ _ _ (by decide)]; exact t1.symm) (by show (u2 (u2 (u2 (u2 (u2 (xI X4) 58 0 (xI X4 42 7)) 42 7 (xI X4 42 7 + 1)) 42 14 1) 42 18 (xI X4 42 6)) 42 19 y') 59 0 = _; rw [yI 59 (by decide) (by decide)]; exact d59) (by show (u2 (u2 (u2 (u2 (u2 (xI X4) 58 0 (xI X4 42 7)) 42 7 (xI X4 42 7 + 1)) 42 14 1) 42 18 (xI X4 42 6)) 42 19 y') 62 0 = _; rw [yI 62 (by decide) (by decide)]; exact d62.trans tt) (by show (u2 (u2 (u2 (u2 (u2 (xI X4) 58 0 (xI X4 42 7)) 42 7 (xI X4 42 7 + 1)) 42 14 1) 42 18 (xI X4 42 6)) 42 19 y') 63 0 = _; rw [yI 63 (by decide) (by decide)]; exact d63) (by show (u2 (u2 (u2 (u2 (u2 (xI X4) 58 0 (xI X4 42 7)) 42 7 (xI X4 42 7 + 1)) 42 14 1) 42 18 (xI X4 42 6)) 42 19 y') 64 0 = _; rw [yI 64 (by decide) (by decide)]; exact d64) (by show (u2 (u2 (u2 (u2 (u2 (xI X4) 58 0 (xI X4 42 7)) 42 7 (xI X4 42 7 + 1)) 42 14 1) 42 18 (xI X4 42 6)) 42 19 y') 65 0 = _; rw [yI 65 (by decide) (by decide)]; exact d65.trans (by show xI X1 42 1 = _; rw [x1 42 (by decide) (by decide)])) (by show (u2 (u2 (u2 (u2 (u2 (xI X4) 58 0 (xI X4 42 7)) 42 7 (xI X4 42 7 + 1)) 42 14 1) 42 18 (xI X4 42 6)) 42 19 y') 66 0 = _; rw [yI 66 (by decide) (by decide)]; exact d66.trans (by show xI X1 42 2 = _; rw [x1 42 (by decide) (by decide)]; exact hW.2.2.1)) (by show (u2 (u2 (u2 (u2 (u2 (xI X4) 58 0 (xI X4 42 7)) 42 7 (xI X4 42 7 + 1)) 42 14 1) 42 18 (xI X4 42 6)) 42 19 y') 67 0 = _; rw [yI 67 (by decide) (by decide)]; exact d67) (by show (u2 (u2 (u2 (u2 (u2 (xI X4) 58 0 (xI X4 42 7)) 42 7 (xI X4 42 7 + 1)) 42 14 1) 42 18 (xI X4 42 6)) 42 19 y') 68 0 = _; rw [yI 68 (by decide) (by decide), d68]; show (u2 (u2 (xI X1) 4 9 (xI X1 4 9 + 1)) 42 0 0) 46 (15 * k + 1) - 1 = _; rw [← k46 1 (by decide)]) (by show (u2 (u2 (u2 (u2 (u2 (xI X4) 58 0 (xI X4 42 7)) 42 7 (xI X4 42 7 + 1)) 42 14 1) 42 18 (xI X4 42 6)) 42 19 y') 69 0 = _; rw [yI 69 (by decide) (by decide)]; exact d69) (by show (u2 (u2 (u2 (u2 (u2 (xI X4) 58 0 (xI X4 42 7)) 42 7 (xI X4 42 7 + 1)) 42 14 1) 42 18 (xI X4 42 6)) 42 19 y') 70 0 = _; rw [yI 70 (by decide) (by decide)]; exact d70) (by show (u2 (u2 (u2 (u2 (u2 (xI X4) 58 0 (xI X4 42 7)) 42 7 (xI X4 42 7 + 1)) 42 14 1) 42 18 (xI X4 42 6)) 42 19 y') 72 0 = _; rw [yI 72 (by decide) (by decide)]; exact d72) (by show (u2 (u2 (u2 (u2 (u2 (xI X4) 58 0 (xI X4 42 7)) 42 7 (xI X4 42 7 + 1)) 42 14 1) 42 18 (xI X4 42 6)) 42 19 y') 73 0 = _; rw [yI 73 (by decide) (by decide)]; exact d73) d74 (by show xJ X4 75 0 = _; rw [d75]; show ((u2 (u2 (xI X1) 4 9 (xI X1 4 9 + 1)) 42 0 0) 46 (15 * k + 0)).toInt64 + (eOf q ((u2 (u2 (xI X1) 4 9 (xI X1 4 9 + 1)) 42 0 0) 46 (15 * k + 14))).toInt64 = _; rw [← k46 0 (by decide), ← k46 14 (by decide)]) (by show xJ X4 76 0 = _; rw [d76]; show (eOf q ((u2 (u2 (xI X1) 4 9 (xI X1 4 9 + 1)) 42 0 0) 46 (15 * k + 14))).toInt64 = _; rw [← k46 14 (by decide)]) d77 (fun i hi => by show (u2 (u2 (u2 (u2 (u2 (xI X4) 58 0 (xI X4 42 7)) 42 7 (xI X4 42 7 + 1)) 42 14 1) 42 18 (xI X4 42 6)) 42 19 y') 81 (12 * 0 + i) = _; rw [yI 81 (by decide) (by decide)]; exact d81 i hi)
    obtain ⟨g1, g2, ⟨g3, g4, g5, g6⟩, g7, g8, g9⟩ := hG
    refine ⟨fun _ => ⟨hall, ?_, ?_, ?_, ?_, ?_⟩, fun w => absurd w ?_, ⟨?_, ?_, ?_, fun _ w => absurd w ?_⟩, ?_, ?_, fun w => ?_⟩
    · show (u2 (u2 (u2 (u2 (u2 (xI X4) 58 0 (xI X4 42 7)) 42 7 (xI X4 42 7 + 1)) 42 14 1) 42 18 (xI X4 42 6)) 42 19 y') 66 0 = (u2 (u2 (u2 (u2 (u2 (xI X4) 58 0 (xI X4 42 7)) 42 7 (xI X4 42 7 + 1)) 42 14 1) 42 18 (xI X4 42 6)) 42 19 y') 4 1
      rw [r4, yI 66 (by decide) (by decide)]
      exact d66.trans (by show xI X1 42 2 = _; rw [x1 42 (by decide) (by decide)]; exact hW.2.2.1)
    · show (u2 (u2 (u2 (u2 (u2 (xI X4) 58 0 (xI X4 42 7)) 42 7 (xI X4 42 7 + 1)) 42 14 1) 42 18 (xI X4 42 6)) 42 19 y') 65 0 = (u2 (u2 (u2 (u2 (u2 (xI X4) 58 0 (xI X4 42 7)) 42 7 (xI X4 42 7 + 1)) 42 14 1) 42 18 (xI X4 42 6)) 42 19 y') 4 0
      rw [r4, yI 65 (by decide) (by decide)]
      exact d65.trans (by show xI X1 42 1 = _; rw [x1 42 (by decide) (by decide)]; exact hW.1)
    · show (u2 (u2 (u2 (u2 (u2 (xI X4) 58 0 (xI X4 42 7)) 42 7 (xI X4 42 7 + 1)) 42 14 1) 42 18 (xI X4 42 6)) 42 19 y') 78 0 = (u2 (u2 (u2 (u2 (u2 (xI X4) 58 0 (xI X4 42 7)) 42 7 (xI X4 42 7 + 1)) 42 14 1) 42 18 (xI X4 42 6)) 42 19 y') 15 14
      rw [r15 15 (by decide) (by decide), yI 78 (by decide) (by decide), d78]; exact b14.symm
    · show xR X4 14 4 = xR X4 8 ((u2 (u2 (u2 (u2 (u2 (xI X4) 58 0 (xI X4 42 7)) 42 7 (xI X4 42 7 + 1)) 42 14 1) 42 18 (xI X4 42 6)) 42 19 y') 63 0).toNatClampNeg
      rw [yI 63 (by decide) (by decide), d63, nI_clamp (by omega), hR4, u2_ne _ _ _ (by decide), u2_at, if_pos rfl, u2_ne _ _ _ (by decide), u2_ne _ _ _ (by decide)]
      exact t1.symm
    · show (u2 (u2 (u2 (u2 (u2 (xI X4) 58 0 (xI X4 42 7)) 42 7 (xI X4 42 7 + 1)) 42 14 1) 42 18 (xI X4 42 6)) 42 19 y') 79 0 = 0
      rw [yI 79 (by decide) (by decide)]; exact d79
    · show ¬ ((u2 (u2 (u2 (u2 (u2 (xI X4) 58 0 (xI X4 42 7)) 42 7 (xI X4 42 7 + 1)) 42 14 1) 42 18 (xI X4 42 6)) 42 19 y') 14 6).toInt = 0
      rw [y6]; decide
    · show bl (xI X4 42 16)
      rw [x42 16 (by decide)]; exact g3
    · show xI X4 42 16 = 0 → ((u2 (u2 (u2 (u2 (u2 (xI X4) 58 0 (xI X4 42 7)) 42 7 (xI X4 42 7 + 1)) 42 14 1) 42 18 (xI X4 42 6)) 42 19 y') 4 12).toInt = -1
      rw [x42 16 (by decide), r4]; exact g4
    · show xI X4 42 16 = 1 → (u2 (u2 (u2 (u2 (u2 (xI X4) 58 0 (xI X4 42 7)) 42 7 (xI X4 42 7 + 1)) 42 14 1) 42 18 (xI X4 42 6)) 42 19 y') 4 12 = (u2 (u2 (u2 (u2 (u2 (xI X4) 58 0 (xI X4 42 7)) 42 7 (xI X4 42 7 + 1)) 42 14 1) 42 18 (xI X4 42 6)) 42 19 y') 58 1 ∧ bnd ((u2 (u2 (u2 (u2 (u2 (xI X4) 58 0 (xI X4 42 7)) 42 7 (xI X4 42 7 + 1)) 42 14 1) 42 18 (xI X4 42 6)) 42 19 y') 4 12) 0 (((h + 1 : Nat) : Int) - 1)
      rw [x42 16 (by decide), r4]
      intro w
      obtain ⟨u, v'⟩ := g5 w
      refine ⟨?_, ⟨v'.1, ?_⟩⟩
      · show xI X 4 12 = xI X4 58 1
        rw [eI 58 (by decide) (by decide)]
        show xI X 4 12 = xI X1 58 1
        rw [x1 58 (by decide) (by decide)]; exact u
      · have := v'.2
        show (xI X 4 12).toInt ≤ _
        omega
    · show ¬ (u2 (u2 (u2 (u2 (u2 (xI X4) 58 0 (xI X4 42 7)) 42 7 (xI X4 42 7 + 1)) 42 14 1) 42 18 (xI X4 42 6)) 42 19 y') 4 12 = (u2 (u2 (u2 (u2 (u2 (xI X4) 58 0 (xI X4 42 7)) 42 7 (xI X4 42 7 + 1)) 42 14 1) 42 18 (xI X4 42 6)) 42 19 y') 14 5
      rw [r4, r14]
      show ¬ xI X 4 12 = xI X 4 9
      intro w2
      have w3 := congrArg Int32.toInt w2
      rw [hH.1, nI_toInt (by omega)] at w3
      rcases g3 with u | u
      · have := g4 u; omega
      · have := (g5 u).2.2; omega
    · show xI X4 42 17 = (u2 (u2 (u2 (u2 (u2 (xI X4) 58 0 (xI X4 42 7)) 42 7 (xI X4 42 7 + 1)) 42 14 1) 42 18 (xI X4 42 6)) 42 19 y') 4 16
      rw [x42 17 (by decide), r4]; exact g7
    · show bl ((u2 (u2 (u2 (u2 (u2 (xI X4) 58 0 (xI X4 42 7)) 42 7 (xI X4 42 7 + 1)) 42 14 1) 42 18 (xI X4 42 6)) 42 19 y') 4 16)
      rw [r4]; exact g8
    · have w' : xI X 4 16 = 1 := by
        have : (u2 (u2 (u2 (u2 (u2 (xI X4) 58 0 (xI X4 42 7)) 42 7 (xI X4 42 7 + 1)) 42 14 1) 42 18 (xI X4 42 6)) 42 19 y') 4 16 = 1 := w
        rw [r4] at this; exact this
      obtain ⟨u, T, B, v'⟩ := g9 w'
      refine ⟨?_, T, B, mFrac_fr (X := X) ?_ ?_ ?_ ?_ ?_ ?_ ?_ v'⟩
      · refine ⟨?_, ?_⟩
        · show (u2 (u2 (u2 (u2 (u2 (xI X4) 58 0 (xI X4 42 7)) 42 7 (xI X4 42 7 + 1)) 42 14 1) 42 18 (xI X4 42 6)) 42 19 y') 67 4 = (u2 (u2 (u2 (u2 (u2 (xI X4) 58 0 (xI X4 42 7)) 42 7 (xI X4 42 7 + 1)) 42 14 1) 42 18 (xI X4 42 6)) 42 19 y') 37 7
          rw [rowX 37 (by decide) (by decide) (by decide) (by decide) (by decide) (by decide) (by decide), yI 67 (by decide) (by decide), eIj 67 4 (by decide) (by decide) (by decide)]
          show xI X1 67 4 = _
          rw [x1 67 (by decide) (by decide)]; exact u.1
        · show bnd ((u2 (u2 (u2 (u2 (u2 (xI X4) 58 0 (xI X4 42 7)) 42 7 (xI X4 42 7 + 1)) 42 14 1) 42 18 (xI X4 42 6)) 42 19 y') 37 7) 0 2000000
          rw [rowX 37 (by decide) (by decide) (by decide) (by decide) (by decide) (by decide) (by decide)]; exact u.2
      · show (u2 (u2 (u2 (u2 (u2 (xI X4) 58 0 (xI X4 42 7)) 42 7 (xI X4 42 7 + 1)) 42 14 1) 42 18 (xI X4 42 6)) 42 19 y') 38 3 = _
        rw [rowX 38 (by decide) (by decide) (by decide) (by decide) (by decide) (by decide) (by decide)]
      · exact rowX 39 (by decide) (by decide) (by decide) (by decide) (by decide) (by decide) (by decide)
      · exact rowX 40 (by decide) (by decide) (by decide) (by decide) (by decide) (by decide) (by decide)
      · show (u2 (u2 (u2 (u2 (u2 (xI X4) 58 0 (xI X4 42 7)) 42 7 (xI X4 42 7 + 1)) 42 14 1) 42 18 (xI X4 42 6)) 42 19 y') 72 4 = _
        rw [yI 72 (by decide) (by decide), eIj 72 4 (by decide) (by decide) (by decide)]
        show xI X1 72 4 = _
        rw [x1 72 (by decide) (by decide)]
      · show (u2 (u2 (u2 (u2 (u2 (xI X4) 58 0 (xI X4 42 7)) 42 7 (xI X4 42 7 + 1)) 42 14 1) 42 18 (xI X4 42 6)) 42 19 y') 73 4 = _
        rw [yI 73 (by decide) (by decide), eIj 73 4 (by decide) (by decide) (by decide)]
        show xI X1 73 4 = _
        rw [x1 73 (by decide) (by decide)]
      · funext j
        show xJ X4 85 _ = xJ X 85 _
        rw [eJ 85 (by decide)]
        show xJ X1 85 _ = _
        rw [aJ 85 (by decide)]; rfl
      · funext j
        show xJ X4 86 _ = xJ X 86 _
        rw [eJ 86 (by decide)]
        show xJ X1 86 _ = _
        rw [aJ 86 (by decide)]; rfl
end Ops
