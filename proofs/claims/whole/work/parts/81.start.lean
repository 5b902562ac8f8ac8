/-! a meter starts -/
/-- what a tariff brings at first if it is one of calls -/
def eOf (q : Nat) (x : Int32) : Int32 := if q = 4 then x else 0
/-- the meter m has started with the tariff d of kind q and number k -/
def Std (m d q k : Nat) (a1 a2 : Int32) (X X' : AX) : Prop := xS X' = xS X ∧ xN X' = xN X ∧ xR X' = u2 (xR X) m 1 (some d) ∧ Pt (m + 1) X' 0 1 ∧ (∀ i, i ≠ m → i ≠ m + 1 → i ≠ m + 2 → i ≠ m + 3 → i ≠ m + 4 → xI X' i = xI X i) ∧ (∀ i, i ≠ m → xJ X' i = xJ X i) ∧
  xI X' m 2 = a1 ∧ xI X' m 3 = a2 ∧ xI X' m 4 = 0 ∧ xI X' m 7 = 0 ∧ xI X' m 8 = xI X (d + 1) 1 - 1 ∧ xI X' m 9 = 0 + eOf q (xI X (d + 1) 14) ∧ xI X' m 10 = 0 ∧ xI X' m 11 = 0 ||| mkB k ∧ xI X' m 12 = 0 ∧ xI X' m 13 = 0 ∧ xI X' m 14 = 1 ∧ xJ X' m 5 = 0 ∧ xJ X' m 6 = (xI X (d + 1) 0).toInt64 + (eOf q (xI X (d + 1) 14)).toInt64
section Start
variable {S : Nat → Nat × Nat} {F : Nat → Nat → Int32} {J : Nat → Nat → Int64} {R : Nat → Nat → Option Nat} {nn d q k : Nat} {K : Option AV → AX → Prop} {KX : String → AX → Prop} {a1 a2 : Int32}
theorem s_start_15 (hd : 92 ≤ d) (hs : S d = (kcl q, 1)) (hs1 : S (d + 1) = (1, 15)) (hq : q < 5) (hk : k < 12) (hn : F d 0 = nI k) (hK : ∀ X', Std 15 d q k a1 a2 (S, F, J, R, nn) X' → K none X') : w_X5_start tb0 [vR (some 15), vR (some d), vI a1, vI a2] (S, F, J, R, nn) K KX := by
  refine i_X5_start_m15 (s_empty_16 (fun X1 hFr hPt => rV_in ?_))
  obtain ⟨S1, F1, J1, R1, n1⟩ := X1
  obtain ⟨f1, f2, f3, f4, f5⟩ := hFr
  have f1 : S1 = S := f1
  have f2 : J1 = J := f2
  have f3 : R1 = R := f3
  have f4 : n1 = nn := f4
  have f5 : ∀ i, i ≠ 16 → i ≠ 16 + 1 → i ≠ 16 + 2 → i ≠ 16 + 3 → F1 i = F i := f5
  subst f1 f2 f3 f4
  have sh : ∀ I J' R' n', shp tb0 (S1, I, J', R', n') d = (kcl q, 1) := fun I J' R' n' => by rw [shp_hi hd]; exact hs
  have sh1 : ∀ I J' R' n', shp tb0 (S1, I, J', R', n') (d + 1) = (1, 15) := fun I J' R' n' => by rw [shp_hi (by omega)]; exact hs1
  have fd : F1 d = F d := f5 d (by omega) (by omega) (by omega) (by omega)
  have fd1 : F1 (d + 1) = F (d + 1) := f5 (d + 1) (by omega) (by omega) (by omega) (by omega)
  have r0 : u2 (u2 (u2 F1 15 2 a1) 15 3 a2) 15 4 0 (d + 1) (Int32.toNatClampNeg 0) = F (d + 1) 0 := by
    rw [u2_ne _ _ _ (by omega), u2_ne _ _ _ (by omega), u2_ne _ _ _ (by omega), fd1]; rfl
  have r1 : u2 (u2 (u2 (u2 F1 15 2 a1) 15 3 a2) 15 4 0) 15 7 0 (d + 1) (Int32.toNatClampNeg 1) = F (d + 1) 1 := by
    rw [u2_ne _ _ _ (by omega), u2_ne _ _ _ (by omega), u2_ne _ _ _ (by omega), u2_ne _ _ _ (by omega), fd1]; rfl
  dsimp only [xI, xJ, xR, xS, xN]
  rw [r0, r1]
  have hF : ∀ i, i ≠ 15 → (u2 (u2 (u2 (u2 (u2 (u2 (u2 (u2 (u2 (u2 (u2 F1 15 2 a1) 15 3 a2) 15 4 0) 15 7 0) 15 8 (F (d + 1) 1 - 1)) 15 9 0) 15 10 0) 15 11 0) 15 12 0) 15 13 0) 15 14 1) i = F1 i := fun i hi => by
    rw [u2_ne _ _ _ hi, u2_ne _ _ _ hi, u2_ne _ _ _ hi, u2_ne _ _ _ hi, u2_ne _ _ _ hi, u2_ne _ _ _ hi, u2_ne _ _ _ hi, u2_ne _ _ _ hi, u2_ne _ _ _ hi, u2_ne _ _ _ hi, u2_ne _ _ _ hi]
  refine gd_in ⟨by rw [sh]; exact isC_k q hq, by rw [sh]⟩ (gd_in (by rw [sh1]) ⟨by rw [sh1]; unfold vp_in; decide, gd_in ⟨by rw [sh]; exact isC_k q hq, by rw [sh]⟩ (gd_in (by rw [sh1]) ⟨by rw [sh1]; unfold vp_in; decide, ?_⟩)⟩)
  refine ⟨Or.inr rfl, ?_⟩
  refine s_take_15 (F := u2 (u2 (u2 (u2 (u2 (u2 (u2 (u2 (u2 (u2 (u2 F1 15 2 a1) 15 3 a2) 15 4 0) 15 7 0) 15 8 (F (d + 1) 1 - 1)) 15 9 0) 15 10 0) 15 11 0) 15 12 0) 15 13 0) 15 14 1) hd hs hs1 hq hk (by rw [hF d (by omega), fd]; exact hn) (fun z => absurd z (by show ¬ bitc 0 k = true; unfold bitc; simp)) (fun z => rV_in (hK _ ?_))
  rw [hF (d + 1) (by omega), fd1]
  refine ⟨rfl, rfl, rfl, ?_, fun i i1 i2 i3 i4 i5 => ?_, fun i i1 => ?_, rfl, rfl, rfl, rfl, rfl, rfl, rfl, rfl, rfl, rfl, rfl, rfl, rfl⟩
  · obtain ⟨w, w1, w2, w3, w4, w5, w6, w7⟩ := hPt
    exact ⟨w, w1, w2, w3, w4, w5, w6, w7⟩
  · show u2 (u2 (u2 (u2 (u2 (u2 (u2 (u2 (u2 (u2 (u2 (u2 (u2 F1 15 2 a1) 15 3 a2) 15 4 0) 15 7 0) 15 8 (F (d + 1) 1 - 1)) 15 9 0) 15 10 0) 15 11 0) 15 12 0) 15 13 0) 15 14 1) 15 11 _) 15 9 _ i = F i
    rw [u2_ne _ _ _ i1, u2_ne _ _ _ i1, hF i i1]
    exact f5 i i2 i3 i4 i5
  · show u2 (u2 (u2 J1 15 5 0) 15 6 (F (d + 1) 0).toInt64) 15 6 _ i = J1 i
    rw [u2_ne _ _ _ i1, u2_ne _ _ _ i1, u2_ne _ _ _ i1]
theorem s_start_29 (hd : 92 ≤ d) (hs : S d = (kcl q, 1)) (hs1 : S (d + 1) = (1, 15)) (hq : q < 5) (hk : k < 12) (hn : F d 0 = nI k) (hK : ∀ X', Std 29 d q k a1 a2 (S, F, J, R, nn) X' → K none X') : w_X5_start tb0 [vR (some 29), vR (some d), vI a1, vI a2] (S, F, J, R, nn) K KX := by
  refine i_X5_start_m29 (s_empty_30 (fun X1 hFr hPt => rV_in ?_))
  obtain ⟨S1, F1, J1, R1, n1⟩ := X1
  obtain ⟨f1, f2, f3, f4, f5⟩ := hFr
  have f1 : S1 = S := f1
  have f2 : J1 = J := f2
  have f3 : R1 = R := f3
  have f4 : n1 = nn := f4
  have f5 : ∀ i, i ≠ 30 → i ≠ 30 + 1 → i ≠ 30 + 2 → i ≠ 30 + 3 → F1 i = F i := f5
  subst f1 f2 f3 f4
  have sh : ∀ I J' R' n', shp tb0 (S1, I, J', R', n') d = (kcl q, 1) := fun I J' R' n' => by rw [shp_hi hd]; exact hs
  have sh1 : ∀ I J' R' n', shp tb0 (S1, I, J', R', n') (d + 1) = (1, 15) := fun I J' R' n' => by rw [shp_hi (by omega)]; exact hs1
  have fd : F1 d = F d := f5 d (by omega) (by omega) (by omega) (by omega)
  have fd1 : F1 (d + 1) = F (d + 1) := f5 (d + 1) (by omega) (by omega) (by omega) (by omega)
  have r0 : u2 (u2 (u2 F1 29 2 a1) 29 3 a2) 29 4 0 (d + 1) (Int32.toNatClampNeg 0) = F (d + 1) 0 := by
    rw [u2_ne _ _ _ (by omega), u2_ne _ _ _ (by omega), u2_ne _ _ _ (by omega), fd1]; rfl
  have r1 : u2 (u2 (u2 (u2 F1 29 2 a1) 29 3 a2) 29 4 0) 29 7 0 (d + 1) (Int32.toNatClampNeg 1) = F (d + 1) 1 := by
    rw [u2_ne _ _ _ (by omega), u2_ne _ _ _ (by omega), u2_ne _ _ _ (by omega), u2_ne _ _ _ (by omega), fd1]; rfl
  dsimp only [xI, xJ, xR, xS, xN]
  rw [r0, r1]
  have hF : ∀ i, i ≠ 29 → (u2 (u2 (u2 (u2 (u2 (u2 (u2 (u2 (u2 (u2 (u2 F1 29 2 a1) 29 3 a2) 29 4 0) 29 7 0) 29 8 (F (d + 1) 1 - 1)) 29 9 0) 29 10 0) 29 11 0) 29 12 0) 29 13 0) 29 14 1) i = F1 i := fun i hi => by
    rw [u2_ne _ _ _ hi, u2_ne _ _ _ hi, u2_ne _ _ _ hi, u2_ne _ _ _ hi, u2_ne _ _ _ hi, u2_ne _ _ _ hi, u2_ne _ _ _ hi, u2_ne _ _ _ hi, u2_ne _ _ _ hi, u2_ne _ _ _ hi, u2_ne _ _ _ hi]
  refine gd_in ⟨by rw [sh]; exact isC_k q hq, by rw [sh]⟩ (gd_in (by rw [sh1]) ⟨by rw [sh1]; unfold vp_in; decide, gd_in ⟨by rw [sh]; exact isC_k q hq, by rw [sh]⟩ (gd_in (by rw [sh1]) ⟨by rw [sh1]; unfold vp_in; decide, ?_⟩)⟩)
  refine ⟨Or.inr rfl, ?_⟩
  refine s_take_29 (F := u2 (u2 (u2 (u2 (u2 (u2 (u2 (u2 (u2 (u2 (u2 F1 29 2 a1) 29 3 a2) 29 4 0) 29 7 0) 29 8 (F (d + 1) 1 - 1)) 29 9 0) 29 10 0) 29 11 0) 29 12 0) 29 13 0) 29 14 1) hd hs hs1 hq hk (by rw [hF d (by omega), fd]; exact hn) (fun z => absurd z (by show ¬ bitc 0 k = true; unfold bitc; simp)) (fun z => rV_in (hK _ ?_))
  rw [hF (d + 1) (by omega), fd1]
  refine ⟨rfl, rfl, rfl, ?_, fun i i1 i2 i3 i4 i5 => ?_, fun i i1 => ?_, rfl, rfl, rfl, rfl, rfl, rfl, rfl, rfl, rfl, rfl, rfl, rfl, rfl⟩
  · obtain ⟨w, w1, w2, w3, w4, w5, w6, w7⟩ := hPt
    exact ⟨w, w1, w2, w3, w4, w5, w6, w7⟩
  · show u2 (u2 (u2 (u2 (u2 (u2 (u2 (u2 (u2 (u2 (u2 (u2 (u2 F1 29 2 a1) 29 3 a2) 29 4 0) 29 7 0) 29 8 (F (d + 1) 1 - 1)) 29 9 0) 29 10 0) 29 11 0) 29 12 0) 29 13 0) 29 14 1) 29 11 _) 29 9 _ i = F i
    rw [u2_ne _ _ _ i1, u2_ne _ _ _ i1, hF i i1]
    exact f5 i i2 i3 i4 i5
  · show u2 (u2 (u2 J1 29 5 0) 29 6 (F (d + 1) 0).toInt64) 29 6 _ i = J1 i
    rw [u2_ne _ _ _ i1, u2_ne _ _ _ i1, u2_ne _ _ _ i1]
theorem s_start_37 (hd : 92 ≤ d) (hs : S d = (kcl q, 1)) (hs1 : S (d + 1) = (1, 15)) (hq : q < 5) (hk : k < 12) (hn : F d 0 = nI k) (hK : ∀ X', Std 37 d q k a1 a2 (S, F, J, R, nn) X' → K none X') : w_X5_start tb0 [vR (some 37), vR (some d), vI a1, vI a2] (S, F, J, R, nn) K KX := by
  refine i_X5_start_m37 (s_empty_38 (fun X1 hFr hPt => rV_in ?_))
  obtain ⟨S1, F1, J1, R1, n1⟩ := X1
  obtain ⟨f1, f2, f3, f4, f5⟩ := hFr
  have f1 : S1 = S := f1
  have f2 : J1 = J := f2
  have f3 : R1 = R := f3
  have f4 : n1 = nn := f4
  have f5 : ∀ i, i ≠ 38 → i ≠ 38 + 1 → i ≠ 38 + 2 → i ≠ 38 + 3 → F1 i = F i := f5
  subst f1 f2 f3 f4
  have sh : ∀ I J' R' n', shp tb0 (S1, I, J', R', n') d = (kcl q, 1) := fun I J' R' n' => by rw [shp_hi hd]; exact hs
  have sh1 : ∀ I J' R' n', shp tb0 (S1, I, J', R', n') (d + 1) = (1, 15) := fun I J' R' n' => by rw [shp_hi (by omega)]; exact hs1
  have fd : F1 d = F d := f5 d (by omega) (by omega) (by omega) (by omega)
  have fd1 : F1 (d + 1) = F (d + 1) := f5 (d + 1) (by omega) (by omega) (by omega) (by omega)
  have r0 : u2 (u2 (u2 F1 37 2 a1) 37 3 a2) 37 4 0 (d + 1) (Int32.toNatClampNeg 0) = F (d + 1) 0 := by
    rw [u2_ne _ _ _ (by omega), u2_ne _ _ _ (by omega), u2_ne _ _ _ (by omega), fd1]; rfl
  have r1 : u2 (u2 (u2 (u2 F1 37 2 a1) 37 3 a2) 37 4 0) 37 7 0 (d + 1) (Int32.toNatClampNeg 1) = F (d + 1) 1 := by
    rw [u2_ne _ _ _ (by omega), u2_ne _ _ _ (by omega), u2_ne _ _ _ (by omega), u2_ne _ _ _ (by omega), fd1]; rfl
  dsimp only [xI, xJ, xR, xS, xN]
  rw [r0, r1]
  have hF : ∀ i, i ≠ 37 → (u2 (u2 (u2 (u2 (u2 (u2 (u2 (u2 (u2 (u2 (u2 F1 37 2 a1) 37 3 a2) 37 4 0) 37 7 0) 37 8 (F (d + 1) 1 - 1)) 37 9 0) 37 10 0) 37 11 0) 37 12 0) 37 13 0) 37 14 1) i = F1 i := fun i hi => by
    rw [u2_ne _ _ _ hi, u2_ne _ _ _ hi, u2_ne _ _ _ hi, u2_ne _ _ _ hi, u2_ne _ _ _ hi, u2_ne _ _ _ hi, u2_ne _ _ _ hi, u2_ne _ _ _ hi, u2_ne _ _ _ hi, u2_ne _ _ _ hi, u2_ne _ _ _ hi]
  refine gd_in ⟨by rw [sh]; exact isC_k q hq, by rw [sh]⟩ (gd_in (by rw [sh1]) ⟨by rw [sh1]; unfold vp_in; decide, gd_in ⟨by rw [sh]; exact isC_k q hq, by rw [sh]⟩ (gd_in (by rw [sh1]) ⟨by rw [sh1]; unfold vp_in; decide, ?_⟩)⟩)
  refine ⟨Or.inr rfl, ?_⟩
  refine s_take_37 (F := u2 (u2 (u2 (u2 (u2 (u2 (u2 (u2 (u2 (u2 (u2 F1 37 2 a1) 37 3 a2) 37 4 0) 37 7 0) 37 8 (F (d + 1) 1 - 1)) 37 9 0) 37 10 0) 37 11 0) 37 12 0) 37 13 0) 37 14 1) hd hs hs1 hq hk (by rw [hF d (by omega), fd]; exact hn) (fun z => absurd z (by show ¬ bitc 0 k = true; unfold bitc; simp)) (fun z => rV_in (hK _ ?_))
  rw [hF (d + 1) (by omega), fd1]
  refine ⟨rfl, rfl, rfl, ?_, fun i i1 i2 i3 i4 i5 => ?_, fun i i1 => ?_, rfl, rfl, rfl, rfl, rfl, rfl, rfl, rfl, rfl, rfl, rfl, rfl, rfl⟩
  · obtain ⟨w, w1, w2, w3, w4, w5, w6, w7⟩ := hPt
    exact ⟨w, w1, w2, w3, w4, w5, w6, w7⟩
  · show u2 (u2 (u2 (u2 (u2 (u2 (u2 (u2 (u2 (u2 (u2 (u2 (u2 F1 37 2 a1) 37 3 a2) 37 4 0) 37 7 0) 37 8 (F (d + 1) 1 - 1)) 37 9 0) 37 10 0) 37 11 0) 37 12 0) 37 13 0) 37 14 1) 37 11 _) 37 9 _ i = F i
    rw [u2_ne _ _ _ i1, u2_ne _ _ _ i1, hF i i1]
    exact f5 i i2 i3 i4 i5
  · show u2 (u2 (u2 J1 37 5 0) 37 6 (F (d + 1) 0).toInt64) 37 6 _ i = J1 i
    rw [u2_ne _ _ _ i1, u2_ne _ _ _ i1, u2_ne _ _ _ i1]
end Start
