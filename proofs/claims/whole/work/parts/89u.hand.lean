/-! hand -/
section Ops
variable {L : Nat} {xs : Nat → Int32} {t n s h l : Nat} {X : AX} {K : Option AV → AX → Prop} {KX : String → AX → Prop}
def hd0 (X : AX) (d hn : Nat) : AX := (xS X, u2 (u2 (xI X) 21 hn (xI X 15 4)) 15 12 (xI X 15 12 + 1), xJ X, u2 (xR X) 22 hn (some d), xN X)
set_option maxHeartbeats 1000000 in
theorem rel_hand (ht : t < 600) (H : Rel L xs t n s h l X) (h6 : (xI X 14 6).toInt = 1) {k d q hn : Nat} {X1 Y : AX} {v : Int64} (hk : k < n) (hd : rlT1 X k d) (hq : q < 5) (h45 : xI X 45 k = nI q) (h12 : xI X 15 12 = nI hn) (hh : hn < 50) (h64 : ¬ xI X 64 0 = nI k) (hP : TkP 15 d k (xtr q (bitc (xI X 15 11) k) (xI X (d + 1) 14)) (hd0 X d hn) X1) (hQ : PtP 0 k hn (bw X1 v) Y) : Rel L xs (t + 1) n s h l Y ∧ xI Y 42 0 = 0 ∧ xJ Y 91 0 = v := by
  obtain ⟨hS, hW, hR, hT, hL, hE, hKk, hH, hC, hG⟩ := H
  obtain ⟨p1, p2, p3, p4, p5, p6, p7, p8, p9, p10⟩ := hP
  obtain ⟨q1, q2, q3, q4, q5, q6, q7, q8, q9, q10, q11, q12, q13, q14, q15⟩ := hQ
  have i1 : ∀ i, i ≠ 15 → i ≠ 21 → xI X1 i = xI X i := fun i c1 c2 => by
    rw [p4 i c1]
    show u2 (u2 (xI X) 21 hn _) 15 12 _ i = _
    rw [u2_ne _ _ _ c1, u2_ne _ _ _ c2]
  have i2 : ∀ i, i ≠ 15 → i ≠ 21 → i ≠ 42 → xI (bw X1 v) i = xI X i := fun i c1 c2 c3 => by
    show u2 (xI X1) 42 0 0 i = _
    rw [u2_ne _ _ _ c3]; exact i1 i c1 c2
  have rI' : ∀ i, i ≠ 15 → i ≠ 21 → i ≠ 42 → i ≠ 64 → i ≠ 70 → i ≠ 81 → i ≠ 83 → i ≠ 84 → xI Y i = xI X i := fun i c1 c2 c3 c4 c5 c6 c7 c8 => (q4 i c4 c5 c6 c7 c8).trans (i2 i c1 c2 c3)
  have r42 : ∀ j, j ≠ 0 → xI Y 42 j = xI X 42 j := fun j c1 => by
    rw [q4 42 (by decide) (by decide) (by decide) (by decide) (by decide)]
    show u2 (xI X1) 42 0 0 42 j = _
    rw [u2_at, if_neg c1, i1 42 (by decide) (by decide)]
  have y15 : xI Y 15 = xI X1 15 := by
    rw [q4 15 (by decide) (by decide) (by decide) (by decide) (by decide)]; try rfl
  have r15 : ∀ j, j ≠ 9 → j ≠ 11 → j ≠ 12 → xI Y 15 j = xI X 15 j := fun j c1 c2 c3 => by
    rw [y15, p5 j c1 c2]
    show u2 (u2 (xI X) 21 hn _) 15 12 _ 15 j = _
    rw [u2_at, if_neg c3, u2_ne _ _ _ (by decide)]
  have y12 : xI Y 15 12 = nI (hn + 1) := by
    rw [y15, p5 12 (by decide) (by decide)]
    show xI X 15 12 + 1 = _
    rw [h12, nI_1]
  have y9 : xI Y 15 9 = xI X 15 9 + xtr q (bitc (xI X 15 11) k) (xI X (d + 1) 14) := by
    rw [y15, p6]; try rfl
  have y11 : ∀ j, bitc (xI Y 15 11) j = (bitc (xI X 15 11) j || decide (j = k)) := fun j => by
    rw [y15, p7 j]; try rfl
  have y21 : xI Y 21 = stf (xI X 21) hn (xI X 15 4) := by
    rw [q4 21 (by decide) (by decide) (by decide) (by decide) (by decide)]
    show xI X1 21 = _
    rw [p4 21 (by decide)]
    funext j
    show u2 (xI X) 21 hn (xI X 15 4) 21 j = _
    rw [u2_at]; try rfl
  have rJ : ∀ i, i ≠ 15 → i ≠ 75 → i ≠ 76 → i ≠ 91 → xJ Y i = xJ X i := fun i c1 c2 c3 c4 => by
    rw [q12 i c2 c3]
    show u2 (xJ X1) 91 0 v i = _
    rw [u2_ne _ _ _ c4, p8 i c1]; try rfl
  have rJ1 : ∀ i j, i ≠ 15 → i ≠ 91 → j ≠ 0 → xJ Y i j = xJ X i j := fun i j c1 c2 c3 => by
    rw [q13 i j c3]
    show u2 (xJ X1) 91 0 v i j = _
    rw [u2_ne _ _ _ c2, p8 i c1]; try rfl
  have rR : xR Y = u2 (u2 (xR X) 22 hn (some d)) 15 1 (some d) := q3.trans p3
  have rS : xS Y = xS X := q1.trans p1
  have rN : xN Y = xN X := q2.trans p2
  have rR8 : xR Y 8 = xR X 8 := by rw [rR, u2_ne _ _ _ (by decide), u2_ne _ _ _ (by decide)]
  have hi : ∀ i, 92 ≤ i → xI Y i = xI X i := fun i c1 => rI' i (by omega) (by omega) (by omega) (by omega) (by omega) (by omega) (by omega) (by omega)
  obtain ⟨g1, g2, ⟨g3a, g3b, g3c, g3d⟩, g4a, g4b, g4c⟩ := rlG_up hG
  obtain ⟨hall0, -⟩ := hG.1 h6
  obtain ⟨hall, g66, g65, g78, gf⟩ := g1 h6
  obtain ⟨w1, w2, w3, w4, w5, T, B, w6, w7⟩ := id hall
  obtain ⟨lim1, lim2⟩ := m_lim w1
  have b13 := hall0.1.2.2.2.2.2.2.2.2.2.2.2.2.1
  obtain ⟨a1, a2, a3, a4, a5, a6, a7, a8, a9, a10, a11, a12, a13, a14, a15, a16, a17, a18, a19, a20, a21, a22, a23⟩ := id w1
  have hn12 := hT.2.2.1
  obtain ⟨t1, t2, t3, -, t5, t6, t7⟩ := id hd
  have e14 : (aLst 14).toInt = 0 ∧ (aMst 14).toInt = 10000 := by decide
  have b14 := (t7 14 (by decide)).2
  unfold bnd at b14 b13
  have hex : 0 ≤ (xtr q (bitc (xI X 15 11) k) (xI X (d + 1) 14)).toInt ∧ (xtr q (bitc (xI X 15 11) k) (xI X (d + 1) 14)).toInt ≤ 10000 := by
    have e0 : (0 : Int32).toInt = 0 := by decide
    unfold xtr eOf
    by_cases z : bitc (xI X 15 11) k = true
    · rw [if_pos z]; omega
    · rw [if_neg z]
      by_cases z2 : q = 4
      · rw [if_pos z2]; omega
      · rw [if_neg z2]; omega
  have ex : xtr' (xI (bw X1 v)) 0 k = xtr q (bitc (xI X 15 11) k) (xI X (d + 1) 14) := by
    rw [← xtr_eq (X := X) (c := 0) (m := 15) hq h45 hk hn12 w3 (t7 14 (by decide)).1]
    unfold xtr'
    rw [i2 45 (by decide) (by decide) (by decide), i2 81 (by decide) (by decide) (by decide), i2 46 (by decide) (by decide) (by decide)]
  rw [ex] at q14 q15
  have j75 : xJ Y 75 0 = xJ X 75 0 + (xtr q (bitc (xI X 15 11) k) (xI X (d + 1) 14)).toInt64 := by
    rw [q14]
    show xJ X1 75 0 + _ = _
    rw [p8 75 (by decide)]; try rfl
  have j76 : xJ Y 76 0 = xJ X 76 0 + (xtr q (bitc (xI X 15 11) k) (xI X (d + 1) 14)).toInt64 := by
    rw [q15]
    show xJ X1 76 0 + _ = _
    rw [p8 76 (by decide)]; try rfl
  have y15J : xJ Y 15 = xJ X1 15 := by rw [q12 15 (by decide) (by decide)]; try rfl
  have j6 : xJ Y 15 6 = xJ X 15 6 + (xtr q (bitc (xI X 15 11) k) (xI X (d + 1) 14)).toInt64 := by
    rw [y15J, p10]; try rfl
  have j5 : xJ Y 15 5 = xJ X 15 5 := by
    rw [y15J, p9 5 (by decide)]; try rfl
  have ehn : (nI hn).toNatClampNeg = hn := nI_clamp (by omega)
  have ehn1 : (nI (hn + 1)).toNatClampNeg = hn + 1 := nI_clamp (by omega)
  have z64 : xI Y 64 0 = nI k := by rw [q5, stf_at]
  have z63 : xI Y 63 = xI X 63 := (rI' 63 (by decide) (by decide) (by decide) (by decide) (by decide) (by decide) (by decide) (by decide))
  have z45 : xI Y 45 = xI X 45 := (rI' 45 (by decide) (by decide) (by decide) (by decide) (by decide) (by decide) (by decide) (by decide))
  have z46 : xI Y 46 = xI X 46 := (rI' 46 (by decide) (by decide) (by decide) (by decide) (by decide) (by decide) (by decide) (by decide))
  have z4 : xI Y 4 = xI X 4 := (rI' 4 (by decide) (by decide) (by decide) (by decide) (by decide) (by decide) (by decide) (by decide))
  have z14 : xI Y 14 = xI X 14 := (rI' 14 (by decide) (by decide) (by decide) (by decide) (by decide) (by decide) (by decide) (by decide))
  have z24 : ∀ i, 24 ≤ i → i ≤ 28 → xI Y i = xI X i := fun i c1 c2 => rI' i (by omega) (by omega) (by omega) (by omega) (by omega) (by omega) (by omega) (by omega)
  have x83 : xI (bw X1 v) 83 = xI X 83 := i2 83 (by decide) (by decide) (by decide)
  have x84 : xI (bw X1 v) 84 = xI X 84 := i2 84 (by decide) (by decide) (by decide)
  have x59 : xI (bw X1 v) 59 = xI X 59 := i2 59 (by decide) (by decide) (by decide)
  have x81 : xI (bw X1 v) 81 = xI X 81 := i2 81 (by decide) (by decide) (by decide)
  have x45 : xI (bw X1 v) 45 = xI X 45 := i2 45 (by decide) (by decide) (by decide)
  rw [x83, x59] at q10
  rw [x84] at q11
  rw [x45, x81] at q9
  rw [x45] at q8
  rw [x81] at q7
  have s9 : (xI X 15 9 + xtr q (bitc (xI X 15 11) k) (xI X (d + 1) 14)).toInt = (xI X 15 9).toInt + (xtr q (bitc (xI X 15 11) k) (xI X (d + 1) 14)).toInt := by rw [n_add] <;> omega
  have l9 : (xI X 15 9 + xtr q (bitc (xI X 15 11) k) (xI X (d + 1) 14)).toInt64 = (xI X 15 9).toInt64 + (xtr q (bitc (xI X 15 11) k) (xI X (d + 1) 14)).toInt64 := i64_add (by omega) (by omega)
  have hTo' : ∀ j, j ≤ hn → hTo 0 Y j = hTo 0 X j := fun j hj => by
    unfold hTo
    rw [z63]
    cases j with
    | zero => rfl
    | succ j =>
      show xI Y 84 (50 * 0 + j) = xI X 84 (50 * 0 + j)
      rw [q11, stf_ne _ _ (by omega)]
  have hTn : hTo 0 Y (hn + 1) = nI k := by
    show xI Y 84 (50 * 0 + hn) = nI k
    rw [q11, stf_at]
  have w42 : xI X 64 0 = hTo 0 X hn := by
    have := w4.2
    rw [h12, ehn] at this; exact this
  have hallY : mAll (t + 1) n 15 0 Y := by
    refine ⟨⟨?_, ?_, ?_, ?_, ?_, ?_, ?_, ?_, ?_, ?_, ?_, ?_, ?_, ?_, ?_, ?_, ?_, ?_, ?_, ?_, ?_, ?_, ?_⟩, ⟨?_, ?_, ?_⟩, ?_, ⟨?_, ?_⟩, ?_, T, B, ?_, ?_⟩
    · rw [(rI' 62 (by decide) (by decide) (by decide) (by decide) (by decide) (by decide) (by decide) (by decide)), r15 2 (by decide) (by decide) (by decide)]; exact a1
    · rw [r15 2 (by decide) (by decide) (by decide)]; exact a2
    · rw [(rI' 66 (by decide) (by decide) (by decide) (by decide) (by decide) (by decide) (by decide) (by decide)), r15 3 (by decide) (by decide) (by decide)]; exact a3
    · rw [r15 3 (by decide) (by decide) (by decide)]; exact a4
    · rw [(rI' 59 (by decide) (by decide) (by decide) (by decide) (by decide) (by decide) (by decide) (by decide)), r15 4 (by decide) (by decide) (by decide)]; exact a5
    · rw [r15 4 (by decide) (by decide) (by decide)]; exact a6
    · rw [(rI' 65 (by decide) (by decide) (by decide) (by decide) (by decide) (by decide) (by decide) (by decide))]; exact a7
    · rw [j5, rJ 74 (by decide) (by decide) (by decide) (by decide), (rI' 65 (by decide) (by decide) (by decide) (by decide) (by decide) (by decide) (by decide) (by decide))]; exact a8
    · rw [j75, j6, a9]
    · rw [(rI' 67 (by decide) (by decide) (by decide) (by decide) (by decide) (by decide) (by decide) (by decide)), r15 7 (by decide) (by decide) (by decide)]; exact a10
    · rw [(rI' 68 (by decide) (by decide) (by decide) (by decide) (by decide) (by decide) (by decide) (by decide)), r15 8 (by decide) (by decide) (by decide)]; exact a11
    · rw [j76, y9, l9, a12]
    · rw [y9]
      unfold bnd
      rw [s9]
      omega
    · rw [rJ 77 (by decide) (by decide) (by decide) (by decide), r15 10 (by decide) (by decide) (by decide)]; exact a14
    · rw [r15 10 (by decide) (by decide) (by decide)]; exact a15
    · rw [q6, stf_at, y12]
    · rw [y12]
      unfold bnd
      rw [nI_toInt (by omega)]; omega
    · rw [(rI' 69 (by decide) (by decide) (by decide) (by decide) (by decide) (by decide) (by decide) (by decide)), r15 13 (by decide) (by decide) (by decide)]; exact a18
    · rw [r15 13 (by decide) (by decide) (by decide)]; exact a19
    · rw [r15 13 (by decide) (by decide) (by decide), r15 4 (by decide) (by decide) (by decide)]; exact a20
    · rw [r15 14 (by decide) (by decide) (by decide)]; exact a21
    · rw [r15 7 (by decide) (by decide) (by decide)]; exact a22
    · rw [r15 7 (by decide) (by decide) (by decide), r15 4 (by decide) (by decide) (by decide)]; exact a23
    · rw [z64]
      unfold bnd
      rw [nI_toInt (by omega)]; omega
    · rw [z64, nI_clamp (by omega), rR8, rR, u2_at, if_pos rfl]; exact t1.symm
    · rw [z63]; exact w2.2.2
    · intro j hj
      obtain ⟨m1, m2, m3⟩ := w3 j hj
      rw [y11 j, z45]
      by_cases e : j = k
      · rw [e]
        refine ⟨fun z => absurd hk (by omega), fun _ z => ?_, ?_⟩
        · rw [q8 z, if_pos (by simp)]
        · by_cases z : xI X 45 k = 4
          · rw [q8 z]; exact Or.inr rfl
          · rw [q9 z, ← e]; exact m3
      · rw [q7 (12 * 0 + j) (by omega), decide_eq_false e, Bool.or_false]; exact ⟨m1, m2, m3⟩
    · rw [y12, ehn1]
      intro j hj
      by_cases e : j = hn
      · rw [e, hTn, hTo' hn (Nat.le_refl _), q10, q11, stf_at, stf_at, y21, stf_at, rR8, rR, u2_ne _ _ _ (by decide), u2_at, if_pos rfl, nI_clamp (by omega)]
        refine ⟨a5, ?_, t1.symm, fun z => h64 ?_⟩
        · unfold bnd
          rw [nI_toInt (by omega)]; omega
        · rw [w42]; exact z.symm
      · have hj2 : j < hn := by omega
        obtain ⟨m1, m2, m3, m4⟩ := w4.1 j (by rw [h12, ehn]; exact hj2)
        rw [hTo' (j + 1) (by omega), hTo' j (by omega), q10, q11, stf_ne _ _ (by omega), stf_ne _ _ (by omega), y21, stf_ne _ _ e, rR8, rR, u2_ne _ _ _ (by decide), u2_at, if_neg e]
        exact ⟨m1, m2, m3, m4⟩
    · rw [y12, ehn1, z64, hTn]
    · unfold mDark
      rw [r15 13 (by decide) (by decide) (by decide), (rI' 82 (by decide) (by decide) (by decide) (by decide) (by decide) (by decide) (by decide) (by decide)), (rI' 20 (by decide) (by decide) (by decide) (by decide) (by decide) (by decide) (by decide) (by decide))]; exact w5
    · exact mFrac_fr (X := X) (by rw [show xI Y (15 + 1) = xI X (15 + 1) from (rI' 16 (by decide) (by decide) (by decide) (by decide) (by decide) (by decide) (by decide) (by decide))]) (rI' 17 (by decide) (by decide) (by decide) (by decide) (by decide) (by decide) (by decide) (by decide)) (rI' 18 (by decide) (by decide) (by decide) (by decide) (by decide) (by decide) (by decide) (by decide)) (by rw [(rI' 72 (by decide) (by decide) (by decide) (by decide) (by decide) (by decide) (by decide) (by decide))]) (by rw [(rI' 73 (by decide) (by decide) (by decide) (by decide) (by decide) (by decide) (by decide) (by decide))]) (by unfold cOv; rw [rJ 85 (by decide) (by decide) (by decide) (by decide)]) (by unfold cUn; rw [rJ 86 (by decide) (by decide) (by decide) (by decide)]) w6
    · unfold mDen cUn
      rw [r15 3 (by decide) (by decide) (by decide), z46, (rI' 73 (by decide) (by decide) (by decide) (by decide) (by decide) (by decide) (by decide) (by decide)), rJ 86 (by decide) (by decide) (by decide) (by decide)]; exact w7
  refine ⟨⟨rlS_n hS rS (rI' 0 (by decide) (by decide) (by decide) (by decide) (by decide) (by decide) (by decide) (by decide)) (rI' 1 (by decide) (by decide) (by decide) (by decide) (by decide) (by decide) (by decide) (by decide)) (rI' 2 (by decide) (by decide) (by decide) (by decide) (by decide) (by decide) (by decide) (by decide)) (rI' 3 (by decide) (by decide) (by decide) (by decide) (by decide) (by decide) (by decide) (by decide)) (by omega), rlW_fr (by rw [z4]) (by rw [z4]) (r42 1 (by decide)) (r42 2 (by decide)) hW, rlR_fr (rI' 6 (by decide) (by decide) (by decide) (by decide) (by decide) (by decide) (by decide) (by decide)) (rI' 7 (by decide) (by decide) (by decide) (by decide) (by decide) (by decide) (by decide) (by decide)) (rI' 43 (by decide) (by decide) (by decide) (by decide) (by decide) (by decide) (by decide) (by decide)) (rI' 44 (by decide) (by decide) (by decide) (by decide) (by decide) (by decide) (by decide) (by decide)) hR, rlT_fr hi z45 z46 rR8 rS (by omega) (by rw [z4]) (r42 5 (by decide)) hT, rlL_fr (rI' 9 (by decide) (by decide) (by decide) (by decide) (by decide) (by decide) (by decide) (by decide)) (rI' 10 (by decide) (by decide) (by decide) (by decide) (by decide) (by decide) (by decide) (by decide)) (rI' 47 (by decide) (by decide) (by decide) (by decide) (by decide) (by decide) (by decide) (by decide)) (rI' 48 (by decide) (by decide) (by decide) (by decide) (by decide) (by decide) (by decide) (by decide)) hL, rlE_fr (by rw [(rI' 11 (by decide) (by decide) (by decide) (by decide) (by decide) (by decide) (by decide) (by decide))]) (r42 6 (by decide)) (rI' 12 (by decide) (by decide) (by decide) (by decide) (by decide) (by decide) (by decide) (by decide)) (rI' 13 (by decide) (by decide) (by decide) (by decide) (by decide) (by decide) (by decide) (by decide)) (rI' 49 (by decide) (by decide) (by decide) (by decide) (by decide) (by decide) (by decide) (by decide)) (rI' 50 (by decide) (by decide) (by decide) (by decide) (by decide) (by decide) (by decide) (by decide)) hE, rlK_fr (by rw [(rI' 34 (by decide) (by decide) (by decide) (by decide) (by decide) (by decide) (by decide) (by decide))]) (by rw [(rI' 34 (by decide) (by decide) (by decide) (by decide) (by decide) (by decide) (by decide) (by decide))]) (r42 25 (by decide)) (rI' 35 (by decide) (by decide) (by decide) (by decide) (by decide) (by decide) (by decide) (by decide)) (rI' 36 (by decide) (by decide) (by decide) (by decide) (by decide) (by decide) (by decide) (by decide)) (rI' 56 (by decide) (by decide) (by decide) (by decide) (by decide) (by decide) (by decide) (by decide)) (rI' 57 (by decide) (by decide) (by decide) (by decide) (by decide) (by decide) (by decide) (by decide)) hKk, rlH_fr (by rw [z4]) z14 (fun j hj => r42 j (by omega)) (fun i hi' => by rw [rI' i (by omega) (by omega) (by omega) (by omega) (by omega) (by omega) (by omega) (by omega)]) (rlH_up hH), rlC_fr hi (rI' 23 (by decide) (by decide) (by decide) (by decide) (by decide) (by decide) (by decide) (by decide)) (rI' 51 (by decide) (by decide) (by decide) (by decide) (by decide) (by decide) (by decide) (by decide)) (rI' 52 (by decide) (by decide) (by decide) (by decide) (by decide) (by decide) (by decide) (by decide)) (rI' 53 (by decide) (by decide) (by decide) (by decide) (by decide) (by decide) (by decide) (by decide)) (rI' 54 (by decide) (by decide) (by decide) (by decide) (by decide) (by decide) (by decide) (by decide)) (rI' 55 (by decide) (by decide) (by decide) (by decide) (by decide) (by decide) (by decide) (by decide)) (by rw [rR, u2_ne _ _ _ (by decide), u2_ne _ _ _ (by decide)]) rS (by omega) (by rw [z14]) hC, ?_⟩, ?_, ?_⟩
  · refine ⟨fun _ => ⟨hallY, ?_, ?_, ?_, ?_, ?_⟩, fun z => by rw [z14] at z; exact absurd (h6.symm.trans z) (by decide), ⟨?_, ?_, ?_, ?_⟩, ?_, ?_, ?_⟩
    · rw [(rI' 66 (by decide) (by decide) (by decide) (by decide) (by decide) (by decide) (by decide) (by decide)), z4]; exact g66
    · rw [(rI' 65 (by decide) (by decide) (by decide) (by decide) (by decide) (by decide) (by decide) (by decide)), z4]; exact g65
    · rw [(rI' 78 (by decide) (by decide) (by decide) (by decide) (by decide) (by decide) (by decide) (by decide)), r15 14 (by decide) (by decide) (by decide)]; exact g78
    · rw [rR8, z63, rR, u2_ne _ _ _ (by decide), u2_ne _ _ _ (by decide)]; exact gf.1
    · rw [(rI' 79 (by decide) (by decide) (by decide) (by decide) (by decide) (by decide) (by decide) (by decide))]; exact gf.2
    · rw [r42 16 (by decide)]; exact g3a
    · rw [r42 16 (by decide), z4]; exact g3b
    · rw [r42 16 (by decide), z4, (rI' 58 (by decide) (by decide) (by decide) (by decide) (by decide) (by decide) (by decide) (by decide))]; exact g3c
    · rw [z14, z4]
      intro c1 c2
      obtain ⟨iall, i66, i65, i78, i63, i60, i61, i79, i80, i12, i13⟩ := g3d c1 c2
      have b17 := iall.1.2.2.2.2.2.2.2.2.2.2.2.2.2.2.2.2.1
      unfold bnd at b17
      have hcl := clp b17.1
      rw [h12, nI_toInt (by omega)] at i12
      have r1 : ∀ i, 59 ≤ i → i ≤ 73 → xI Y i 1 = xI X i 1 := fun i c1 c2 => by
        by_cases e : i = 64
        · rw [e, q5, stf_ne _ _ (by decide)]
          show xI (bw X1 v) 64 1 = _
          rw [i2 64 (by decide) (by decide) (by decide)]
        · by_cases e2 : i = 70
          · rw [e2, q6, stf_ne _ _ (by decide)]
            show xI (bw X1 v) 70 1 = _
            rw [i2 70 (by decide) (by decide) (by decide)]
          · rw [rI' i (by omega) (by omega) (by omega) e e2 (by omega) (by omega) (by omega)]
      refine ⟨mAll_tr (X := X) (m := 24) (c := 1) ⟨fun j c1 c2 _ => by rw [z24 24 (by decide) (by decide)], ⟨by rw [rJ 24 (by decide) (by decide) (by decide) (by decide)], by rw [rJ 24 (by decide) (by decide) (by decide) (by decide)]⟩, by rw [rR, u2_ne _ _ _ (by decide), u2_ne _ _ _ (by decide)], ⟨by rw [z24 25 (by decide) (by decide)], fun j hj => ⟨by rw [z24 26 (by decide) (by decide)], by rw [z24 27 (by decide) (by decide)]⟩⟩, fun i c1 c2 _ _ _ => r1 i c1 c2, fun i c1 c2 => rJ1 i 1 (by omega) (by omega) (by decide), fun j hj => q7 _ (by omega), fun j hj => ⟨by rw [(rI' 82 (by decide) (by decide) (by decide) (by decide) (by decide) (by decide) (by decide) (by decide))], by rw [(rI' 20 (by decide) (by decide) (by decide) (by decide) (by decide) (by decide) (by decide) (by decide))]⟩, fun j hj => ⟨by rw [q10, stf_ne _ _ (by omega)], by rw [q11, stf_ne _ _ (by omega)], by rw [y21, stf_ne _ _ (by omega)], by rw [rR, u2_ne _ _ _ (by decide), u2_at, if_neg (by omega)]⟩, fun j hj => ⟨by rw [rJ 85 (by decide) (by decide) (by decide) (by decide)], by rw [rJ 86 (by decide) (by decide) (by decide) (by decide)]⟩, z45, z46, rR8⟩ iall, ?_, ?_, ?_, ?_, ?_, ?_, ?_, ?_, ?_, ?_⟩
      · rw [(rI' 66 (by decide) (by decide) (by decide) (by decide) (by decide) (by decide) (by decide) (by decide))]; exact i66
      · rw [(rI' 65 (by decide) (by decide) (by decide) (by decide) (by decide) (by decide) (by decide) (by decide))]; exact i65
      · rw [(rI' 78 (by decide) (by decide) (by decide) (by decide) (by decide) (by decide) (by decide) (by decide)), z24 24 (by decide) (by decide)]; exact i78
      · rw [z63]; exact i63
      · rw [(rI' 60 (by decide) (by decide) (by decide) (by decide) (by decide) (by decide) (by decide) (by decide))]; exact i60
      · rw [(rI' 61 (by decide) (by decide) (by decide) (by decide) (by decide) (by decide) (by decide) (by decide))]; exact i61
      · rw [(rI' 79 (by decide) (by decide) (by decide) (by decide) (by decide) (by decide) (by decide) (by decide))]; exact i79
      · rw [(rI' 80 (by decide) (by decide) (by decide) (by decide) (by decide) (by decide) (by decide) (by decide))]; exact i80
      · rw [z24 24 (by decide) (by decide), y12, nI_toInt (by omega)]
        omega
      · rw [z24 24 (by decide) (by decide), r15 13 (by decide) (by decide) (by decide)]; exact i13
    · rw [r42 17 (by decide), z4]; exact g4a
    · rw [z4]; exact g4b
    · rw [z4]
      intro w
      obtain ⟨u, T, B, v'⟩ := g4c w
      refine ⟨?_, T, B, mFrac_fr (X := X) ?_ ?_ ?_ ?_ ?_ ?_ ?_ v'⟩
      · rw [(rI' 67 (by decide) (by decide) (by decide) (by decide) (by decide) (by decide) (by decide) (by decide)), (rI' 37 (by decide) (by decide) (by decide) (by decide) (by decide) (by decide) (by decide) (by decide))]; exact u
      · rw [show xI Y (37 + 1) = xI X (37 + 1) from (rI' 38 (by decide) (by decide) (by decide) (by decide) (by decide) (by decide) (by decide) (by decide))]
      · exact (rI' 39 (by decide) (by decide) (by decide) (by decide) (by decide) (by decide) (by decide) (by decide))
      · exact (rI' 40 (by decide) (by decide) (by decide) (by decide) (by decide) (by decide) (by decide) (by decide))
      · rw [(rI' 72 (by decide) (by decide) (by decide) (by decide) (by decide) (by decide) (by decide) (by decide))]
      · rw [(rI' 73 (by decide) (by decide) (by decide) (by decide) (by decide) (by decide) (by decide) (by decide))]
      · unfold cOv; rw [rJ 85 (by decide) (by decide) (by decide) (by decide)]
      · unfold cUn; rw [rJ 86 (by decide) (by decide) (by decide) (by decide)]
  · rw [q4 42 (by decide) (by decide) (by decide) (by decide) (by decide)]; try rfl
  · rw [q12 91 (by decide) (by decide)]; try rfl
set_option maxHeartbeats 4000000 in
theorem op_hand {a0 : Int32} (ht : t < 600) (H : Rel L xs t n s h l X) (hK : ∀ c X1, SamS X X1 → (∀ K2 KX2, (∀ b X4, FinB L xs t c b X4 → K2 (some (vI b)) X4) → w_X12_hand tb0 [vR (some 42), vI a0] X1 K2 KX2) → K (some (vI c)) X1) : w_L_hand tb0 [vR (some 4), vI a0, vR (some 91)] X K KX := by
  obtain ⟨hS, hW, hR, hT, hL, hE, hKk, hH, hC, hG⟩ := id H
  have hr := congrArg Int32.toInt hH.2.2.2.1
  have hb2 := b_toInt hH.2.2.2.2.1
  have hslf : 0 ≤ a0.toInt → a0.toInt < 12 → xI X 47 a0.toNatClampNeg = xI X 9 a0.toNatClampNeg ∧ xI X 48 a0.toNatClampNeg = xI X 10 a0.toNatClampNeg ∧ bnd (xI X 9 a0.toNatClampNeg) 0 2 := fun q1 q2 => by
    have := clp q1
    obtain ⟨e1, e2, e3, -⟩ := hL a0.toNatClampNeg (by omega)
    exact ⟨e1, e2, e3⟩
  have hst : (xI X 14 6).toInt = 1 → (xI X 78 0).toInt = (xI X 15 14).toInt ∧ (xI X 70 0).toInt = (xI X 15 12).toInt ∧ ((xI X 15 14).toInt = 0 ∨ (xI X 15 14).toInt = 1) := fun z => by
    obtain ⟨hall, g66, g65, g78, gf⟩ := hG.1 z
    obtain ⟨-, -, -, -, -, -, -, -, -, -, -, -, -, -, -, a16, a17, a18, a19, a20, a21⟩ := hall.1
    exact ⟨congrArg Int32.toInt g78, congrArg Int32.toInt a16, b_toInt a21.1⟩
  by_cases hin : ((xI X 14 6).toInt = 1 ∧ (xI X 15 14).toInt = 1 ∧ (xI X 15 12).toInt < 50 ∧ 0 ≤ a0.toInt ∧ a0.toInt < 12) ∧ (xI X 9 a0.toNatClampNeg).toInt = 1
  · obtain ⟨⟨h6, hs1, h50, h0, h12⟩, h9⟩ := hin
    obtain ⟨hall, g66, g65, g78, gf⟩ := id (hG.1 h6)
    obtain ⟨w1, w2, w3, w4, w5, -⟩ := id hall
    obtain ⟨-, -, -, -, -, -, -, -, -, -, -, -, -, -, -, a16, a17, a18, a19, a20, a21⟩ := id w1
    have a17' := a17
    unfold bnd at a17'
    have c12 := clp a17'.1
    have e12 : xI X 15 12 = nI (xI X 15 12).toNatClampNeg := nI_ofI a17'.1
    obtain ⟨s1, s2, s3⟩ := hslf h0 h12
    have h15 : ¬ xI X 15 14 = 0 := fun z => by rw [z] at hs1; exact absurd hs1 (by decide)
    have e50 : (50 : Int32).toInt = 50 := by decide
    have e12i : (12 : Int32).toInt = 12 := by decide
    have n50 : ¬ (50 : Int32) ≤ xI X 15 12 := fun z => by
      have := Int32.le_iff_toInt_le.mp z
      omega
    have r1 : ¬ xI X 42 14 = 0 := fun z => by
      have := congrArg Int32.toInt z
      rw [hr, h6] at this
      exact absurd this (by decide)
    have r78 : ¬ xI X 78 0 = 0 := fun z => h15 (by rw [← g78]; exact z)
    have r70 : ¬ (50 : Int32) ≤ xI X 70 0 := fun z => n50 (by rw [← a16]; exact z)
    have va0 : vp_in a0 12 := vp_in_iff.mpr ⟨h0, h12⟩
    refine i_L_hand (i_X11_hand (s_hired hH.2.2.2.2.1 (fun _ => rV_in ⟨fun z => absurd z h15, fun _ => ⟨fun z => absurd z n50, fun _ => e_X11_hand_37 (s_demandState1 (rV_in (s_demandPlace (fun _ _ => rV_in (s_tariffHeld (n := n) (s := s) hT hL h0 h12 (fun d z1 hbn hd => rR_in ?_) (fun z => absurd (h9.symm.trans z) (by decide)) (fun z => absurd (h9.symm.trans z) (by decide)))) (fun z => absurd ⟨h0, by omega⟩ z))))⟩⟩) (fun z => absurd (h6.symm.trans z) (by decide))))
    have hbn' := hbn
    unfold bnd at hbn'
    have ck := clp hbn'.1
    have hn12 := hT.2.2.1
    obtain ⟨t1, t2, t3, ⟨q, tq1, tq2, tq3⟩, t5, t6, t7⟩ := id hd
    have e48 : xI X 48 a0.toNatClampNeg = nI (xI X 10 a0.toNatClampNeg).toNatClampNeg := by rw [s2]; exact nI_ofI hbn'.1
    have w2' := w2.1
    unfold bnd at w2'
    have ck0 := clp w2'.1
    obtain ⟨d0, hd0'⟩ := hT.2.2.2 (xI X 64 0).toNatClampNeg (by omega)
    have hx1 : xR X 15 1 = some d0 := w2.2.1.trans hd0'.1
    have e64 : xI X 64 0 = nI (xI X 64 0).toNatClampNeg := nI_ofI w2'.1
    have hkk : d = d0 → nI (xI X 10 a0.toNatClampNeg).toNatClampNeg = xI X 64 0 := fun z => by
      rw [e64, ← t6, z]; exact hd0'.2.2.2.2.2.1
    refine ⟨(show 4 ≤ d by omega), by rw [hx1]; exact (show 4 ≤ d0 by have := hd0'.2.1; omega), fun ne => e_X11_hand_68 (i_X4_change ?_), fun eq => ⟨Or.inl rfl, rI_in ⟨fun _ => e_L_hand_14 (e_L_hand_15 ⟨by unfold vp_in; decide, e_L_hand_31 (hK 0 _ (SamS.mk rfl rfl) (fun K2 KX2 hK2 => ?_))⟩), fun z => absurd rfl z⟩⟩⟩
    · have hne : ¬ xI X 64 0 = nI (xI X 10 a0.toNatClampNeg).toNatClampNeg := fun z => ne (by
        have hkk2 : (xI X 10 a0.toNatClampNeg).toNatClampNeg = (xI X 64 0).toNatClampNeg := by rw [z, nI_clamp (by omega)]
        rw [hx1, ← hd0'.1, ← hkk2, t1])
      have sd : ∀ I J' R' n', shp tb0 (xS X, I, J', R', n') d = (kcl q, 1) := fun I J' R' n' => by rw [shp_hi t2]; exact tq3
      refine ⟨vp_in_iff.mpr ⟨a17'.1, by omega⟩, vp_in_iff.mpr ⟨a17'.1, by omega⟩, ⟨kcl q - 10, ?_, ?_⟩, i_X5_takeByHand_m15 (s_takeP_15 (S := xS X) (F := xI (hd0 X d (xI X 15 12).toNatClampNeg)) (J := xJ X) (R := u2 (xR X) 22 (xI X 15 12).toNatClampNeg (some d)) (nn := xN X) (q := q) (k := (xI X 10 a0.toNatClampNeg).toNatClampNeg) t2 tq3 t5 tq1 (by omega) ?_ (fun X1 hP => rV_in (rV_in (rV_in ⟨Or.inr rfl, rI_in ⟨fun z => absurd z (by decide), fun _ => e_L_hand_15 ⟨by unfold vp_in; decide, e_L_hand_31 (hK 0 _ (SamS.mk ?_ ?_) (fun K2 KX2 hK2 => ?_))⟩⟩⟩))))⟩
      · have hq5 : q = 0 ∨ q = 1 ∨ q = 2 ∨ q = 3 ∨ q = 4 := by omega
        rcases hq5 with e | e | e | e | e <;> rw [e] <;> decide
      · rw [sd]
        have hq5 : q = 0 ∨ q = 1 ∨ q = 2 ∨ q = 3 ∨ q = 4 := by omega
        rcases hq5 with e | e | e | e | e <;> rw [e] <;> decide
      · show u2 (u2 (xI X) 21 _ _) 15 12 _ d 0 = _
        rw [u2_ne _ _ _ (by omega), u2_ne _ _ _ (by omega)]; exact t6
      · exact congrFun hP.1 0
      · show xI X1 0 = xI X 0
        rw [hP.2.2.2.1 0 (by decide)]; try rfl
      · have rX : ∀ i, i ≠ 15 → i ≠ 21 → xI X1 i = xI X i := fun i c1 c2 => by
          rw [hP.2.2.2.1 i c1]
          show u2 (u2 (xI X) 21 _ _) 15 12 _ i = _
          rw [u2_ne _ _ _ c1, u2_ne _ _ _ c2]
        have eX : xtr q (bitc (xI (hd0 X d (xI X 15 12).toNatClampNeg) 15 11) (xI X 10 a0.toNatClampNeg).toNatClampNeg) (xI (hd0 X d (xI X 15 12).toNatClampNeg) (d + 1) 14) = xtr q (bitc (xI X 15 11) (xI X 10 a0.toNatClampNeg).toNatClampNeg) (xI X (d + 1) 14) := by
          have : xI (hd0 X d (xI X 15 12).toNatClampNeg) (d + 1) = xI X (d + 1) := by
            show u2 (u2 (xI X) 21 _ _) 15 12 _ (d + 1) = _
            rw [u2_ne _ _ _ (by omega), u2_ne _ _ _ (by omega)]
          rw [this]; try rfl
        have hP' : TkP 15 d (xI X 10 a0.toNatClampNeg).toNatClampNeg (xtr q (bitc (xI X 15 11) (xI X 10 a0.toNatClampNeg).toNatClampNeg) (xI X (d + 1) 14)) (hd0 X d (xI X 15 12).toNatClampNeg) X1 := by
          rw [← eX]; exact hP
        have f64 : ¬ xI X1 64 0 = xI X1 48 a0.toNatClampNeg := by
          rw [rX 64 (by decide) (by decide), rX 48 (by decide) (by decide), e48]; exact hne
        have e48' : xI X1 48 a0.toNatClampNeg = nI (xI X 10 a0.toNatClampNeg).toNatClampNeg := by rw [rX 48 (by decide) (by decide)]; exact e48
        refine i_X12_hand ⟨fun z => absurd ?_ r1, fun _ => ⟨by unfold vp_in; decide, fun z => absurd ?_ r78, fun _ => ⟨by unfold vp_in; decide, fun z => absurd ?_ r70, fun _ => e_X12_hand_38 (s_right1 (rI_in ⟨fun z => absurd z (by decide), fun _ => s_isSlot1 h0 h12 (rI_in ⟨fun z => absurd z (by decide), fun _ => s_isHeld h0 h12 (by decide) (by decide) ?_ (fun _ => rI_in ⟨fun _ => e_X12_hand_66 ?_, fun z => absurd z (by decide)⟩) (fun z => absurd z ?_) (fun z => absurd z ?_)⟩)⟩))⟩⟩⟩
        · have z' : xI X1 42 14 = 0 := z
          rw [rX 42 (by decide) (by decide)] at z'; exact z'
        · have z' : xI X1 78 0 = 0 := z
          rw [rX 78 (by decide) (by decide)] at z'; exact z'
        · have z' : (50 : Int32) ≤ xI X1 70 0 := z
          rw [rX 70 (by decide) (by decide)] at z'; exact z'
        · rw [show xI X1 47 a0.toNatClampNeg = xI X 47 a0.toNatClampNeg by rw [rX 47 (by decide) (by decide)], s1]; exact s3
        · refine ⟨va0, by unfold vp_in; decide, fun _ => e_X12_hand_85 ?_, fun z => absurd z f64⟩
          rw [show xI (xS X1, u2 (xI X1) 42 0 0, u2 (xJ X1) 91 (Int32.toNatClampNeg 0) 1, xR X1, xN X1) 48 a0.toNatClampNeg = nI (xI X 10 a0.toNatClampNeg).toNatClampNeg from e48']
          have q := s_puts (S := xS X1) (F := u2 (xI X1) 42 0 0) (J := u2 (xJ X1) 91 0 1) (R := xR X1) (nn := xN X1) (c := 0) (k := (xI X 10 a0.toNatClampNeg).toNatClampNeg) (hn := (xI X 15 12).toNatClampNeg) (K := fun v2 X1 => rV v2 (((1 : Int32) = 0 ∨ (1 : Int32) = 1) ∧ K2 (some (vI 1)) X1)) (KX := KX2) (by decide) (by omega) (by
            show ¬ xI X1 64 0 = _
            rw [rX 64 (by decide) (by decide)]; exact hne) (by
            show xI X1 70 0 = _
            rw [rX 70 (by decide) (by decide), a16]; exact e12) (by omega) (by
            show bl (xI X1 81 (12 * 0 + (xI X 10 a0.toNatClampNeg).toNatClampNeg))
            rw [rX 81 (by decide) (by decide)]; exact (w3 _ (by omega)).2.2) (fun Y hQ => rV_in ⟨Or.inr rfl, hK2 _ _ ?_⟩)
          · exact q
          · obtain ⟨R1, R2, R3⟩ := rel_hand (v := 1) ht H h6 (by omega) hd tq1 tq2 e12 (by omega) hne hP' hQ
            exact ⟨⟨⟨n, s, h, l, R1⟩, R2, fun _ => R3⟩, Or.inr rfl⟩
        · show ¬ (xI X1 47 a0.toNatClampNeg).toInt = 0
          rw [rX 47 (by decide) (by decide), s1]; omega
        · show ¬ (xI X1 47 a0.toNatClampNeg).toInt = 2
          rw [rX 47 (by decide) (by decide), s1]; omega
    · have e64' : xI X 64 0 = xI X 48 a0.toNatClampNeg := by
        rw [e48]
        exact (hkk (Option.some.inj (eq.trans hx1))).symm
      refine i_X12_hand ⟨fun z => absurd z r1, fun _ => ⟨by unfold vp_in; decide, fun z => absurd z r78, fun _ => ⟨by unfold vp_in; decide, fun z => absurd z r70, fun _ => e_X12_hand_38 (s_right1 (rI_in ⟨fun z => absurd z (by decide), fun _ => s_isSlot1 h0 h12 (rI_in ⟨fun z => absurd z (by decide), fun _ => s_isHeld h0 h12 (by decide) (by decide) ?_ (fun _ => rI_in ⟨fun _ => e_X12_hand_66 ⟨va0, by unfold vp_in; decide, fun z => absurd e64' z, fun _ => ⟨Or.inl rfl, hK2 _ _ ⟨fin_read H rfl, Or.inl rfl⟩⟩⟩, fun z => absurd z (by decide)⟩) (fun z => absurd z ?_) (fun z => absurd z ?_)⟩)⟩))⟩⟩⟩
      · rw [show xI X 47 a0.toNatClampNeg = xI X 9 a0.toNatClampNeg from s1]; exact s3
      · show ¬ (xI X 47 a0.toNatClampNeg).toInt = 0
        rw [s1]; omega
      · show ¬ (xI X 47 a0.toNatClampNeg).toInt = 2
        rw [s1]; omega
  · have hsx : 0 ≤ a0.toInt → a0.toInt < 12 → (xI X 47 a0.toNatClampNeg).toInt = (xI X 9 a0.toNatClampNeg).toInt ∧ 0 ≤ (xI X 47 a0.toNatClampNeg).toInt ∧ (xI X 47 a0.toNatClampNeg).toInt ≤ 2 := fun q1 q2 => by
      obtain ⟨e1, e2, e3⟩ := hslf q1 q2
      rw [e1]; exact ⟨rfl, e3⟩
    have hsy := hsx
    have hbb := hH.2.2.2.2.1
    unfold bl at hbb
    simp only [Int32.lt_iff_toInt_lt, Int32.le_iff_toInt_le, ← Int32.toInt_inj, u2_ap, reduceIte, Nat.reduceEqDiff, xI, xJ, xR, xS, xN, li_0, li_1, li_2, li_3, li_4, li_5, li_6, li_7, li_8, li_9, li_10, li_11, li_12, li_13, li_14, li_15, li_16, li_20, li_34, li_40, li_50, li_59, li_60, li_64, li_99, li_100, li_200, li_500, li_1439, li_1440, li_3840, li_4000, li_10000, li_60000, li_1000000, li_m1, li_min, ck_0, ck_1, ck_2, ck_3, ck_4] at hr hb2 hin hsx hst
    repeat' (first
      | with_reducible refine i_L_hand ?_
      | with_reducible refine e_L_hand_14 ?_
      | with_reducible refine e_L_hand_15 ?_
      | with_reducible refine e_L_hand_29 ?_
      | with_reducible refine e_L_hand_26 ?_
      | with_reducible refine e_L_hand_23 ?_
      | with_reducible refine e_L_hand_20 ?_
      | with_reducible refine e_L_hand_31 ?_
      | with_reducible refine i_X11_hand ?_
      | with_reducible refine e_X11_hand_36 ?_
      | with_reducible refine e_X11_hand_37 ?_
      | with_reducible refine i_X12_hand ?_
      | with_reducible refine e_X12_hand_37 ?_
      | with_reducible refine e_X12_hand_38 ?_
      | with_reducible refine e_X12_hand_64 ?_
      | with_reducible refine i_X12_isSlot ?_
      | with_reducible refine e_X12_isSlot_15 ?_
      | with_reducible refine e_X12_isSlot_16 ?_
      | ((with_reducible refine s_tariffHeld (n := n) (s := s) hT hL ?_ ?_ ?_ ?_ ?_); (· omega); (· omega))
      | ((with_reducible refine s_isHeld ?_ ?_ ?_ ?_ ?_ ?_ ?_ ?_); (· omega); (· omega); (· decide); (· decide); (· exact (hsy (by omega) (by omega)).2))
      | with_reducible refine s_isFrom ?_ ?_
      | with_reducible refine s_demand1 ?_
      | with_reducible refine s_demand0 ?_
      | with_reducible refine s_demandSuch1 ?_
      | with_reducible refine s_demandSuch0 ?_
      | with_reducible refine s_demandState1 ?_
      | with_reducible refine s_demandState0 ?_
      | with_reducible refine s_demandPlace ?_ ?_
      | with_reducible refine s_refuse ?_ ?_
      | (with_reducible refine s_hired ?hb ?_ ?_; case hb => assumption)
      | with_reducible refine s_right1 ?_
      | with_reducible refine s_right0 (by decide) ?_
      | with_reducible refine s_thrown ?_
      | with_reducible refine rI_in ?_
      | with_reducible refine rV_in ?_
      | with_reducible refine rL_in ?_
      | with_reducible refine rR_in ?_
      | with_reducible refine ite_t rfl ?_
      | with_reducible refine ite_f (by decide) ?_
      | with_reducible refine gd_in (by decide) ?_
      | with_reducible refine or0_and ?_
      | with_reducible refine or1_and ?_
      | with_reducible refine br_t (by decide) ?_
      | with_reducible refine br_f (by decide) ?_
      | with_reducible refine br_t2 (by decide) ?_
      | with_reducible refine br_f2 (by decide) ?_
      | (with_reducible refine vin_and ?hv ?_; case hv => first | omega | (simp only [Int32.lt_iff_toInt_lt, Int32.le_iff_toInt_le, ← Int32.toInt_inj, u2_ap, reduceIte, Nat.reduceEqDiff, xI, xJ, xR, xS, xN, li_0, li_1, li_2, li_3, li_4, li_5, li_6, li_7, li_8, li_9, li_10, li_11, li_12, li_13, li_14, li_15, li_16, li_20, li_34, li_40, li_50, li_59, li_60, li_64, li_99, li_100, li_200, li_500, li_1439, li_1440, li_3840, li_4000, li_10000, li_60000, li_1000000, li_m1, li_min, ck_0, ck_1, ck_2, ck_3, ck_4] at * <;> omega))
      | (with_reducible refine ne_and ?hv ?_; case hv => decide)
      | (refine hK _ _ (SamS.mk rfl rfl) (fun K2 KX2 hK2 => ?_); try dsimp only [xI, xJ, xR, xS, xN])
      | (with_reducible refine hK2 _ _ ?_; try dsimp only [xI, xJ, xR, xS, xN])
      | exact fin_thr H (by assumption) _ (by decide)
      | exact finL_thr H (by assumption) _ (by decide)
      | exact finB_thr H (by assumption) (by decide)
      | ((with_reducible refine br_s (fun c => ?_) (fun c => ?_)) <;> (try simp only [Int32.lt_iff_toInt_lt, Int32.le_iff_toInt_le, ← Int32.toInt_inj, u2_ap, reduceIte, Nat.reduceEqDiff, xI, xJ, xR, xS, xN, li_0, li_1, li_2, li_3, li_4, li_5, li_6, li_7, li_8, li_9, li_10, li_11, li_12, li_13, li_14, li_15, li_16, li_20, li_34, li_40, li_50, li_59, li_60, li_64, li_99, li_100, li_200, li_500, li_1439, li_1440, li_3840, li_4000, li_10000, li_60000, li_1000000, li_m1, li_min, ck_0, ck_1, ck_2, ck_3, ck_4] at c) <;> (try (exfalso; omega)))
      | ((with_reducible refine br_s2 (fun c => ?_) (fun c => ?_)) <;> (try simp only [Int32.lt_iff_toInt_lt, Int32.le_iff_toInt_le, ← Int32.toInt_inj, u2_ap, reduceIte, Nat.reduceEqDiff, xI, xJ, xR, xS, xN, li_0, li_1, li_2, li_3, li_4, li_5, li_6, li_7, li_8, li_9, li_10, li_11, li_12, li_13, li_14, li_15, li_16, li_20, li_34, li_40, li_50, li_59, li_60, li_64, li_99, li_100, li_200, li_500, li_1439, li_1440, li_3840, li_4000, li_10000, li_60000, li_1000000, li_m1, li_min, ck_0, ck_1, ck_2, ck_3, ck_4] at c) <;> (try (exfalso; omega)))
      | ((with_reducible intro c); (try simp only [Int32.lt_iff_toInt_lt, Int32.le_iff_toInt_le, ← Int32.toInt_inj, u2_ap, reduceIte, Nat.reduceEqDiff, xI, xJ, xR, xS, xN, li_0, li_1, li_2, li_3, li_4, li_5, li_6, li_7, li_8, li_9, li_10, li_11, li_12, li_13, li_14, li_15, li_16, li_20, li_34, li_40, li_50, li_59, li_60, li_64, li_99, li_100, li_200, li_500, li_1439, li_1440, li_3840, li_4000, li_10000, li_60000, li_1000000, li_m1, li_min, ck_0, ck_1, ck_2, ck_3, ck_4] at c) <;> (try (exfalso; omega))))
end Ops
