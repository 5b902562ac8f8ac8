/-! from the relation to the pictures of a meter, and back -/
section Reps
variable {L : Nat} {xs : Nat → Int32} {t n s h l m c k q d : Nat} {X Y : AX} {f : Nat → Int32} {bg te rd : Int32} {v : MtS}
theorem num_of (hT : rlT n X) : numOk (xI X 46) n := fun k hk j hj => by
  obtain ⟨d, -, -, -, -, -, -, e⟩ := hT.2.2.2 k hk
  obtain ⟨e1, e2⟩ := e j hj
  rw [← e1]; exact e2
theorem rows_of (hR : rlR X) : rowsOk (xI X 7) (xI X 6) := ⟨fun r hr => (hR.1 r hr).2, fun j hj => (hR.2 j hj).2⟩
theorem plF_eq (hR : rlR X) {τ : Nat} (ht : τ < 3840) : plsF (xI X 43) (xI X 44) τ = plsF (xI X 7) (xI X 6) τ := by
  unfold plsF
  rw [(hR.1 (τ / 60) (by omega)).1, (hR.2 (60 * (τ / 60) + τ % 60) (by omega)).1]
theorem rows_of' (hR : rlR X) : rowsOk (xI X 43) (xI X 44) := ⟨fun r hr => by rw [(hR.1 r hr).1]; exact (hR.1 r hr).2, fun j hj => by rw [(hR.2 j hj).1]; exact (hR.2 j hj).2⟩
theorem rep_of (hT : rlT n X) (w : mAll t n m c X) : ∃ k q d v, k < n ∧ q < 5 ∧ rlT1 X k d ∧ xI X 45 k = nI q ∧ xS X d = (kcl q, 1) ∧ xI X 64 c = nI k ∧ cRep m d n (xI X 46) (xI X m 2) (xI X m 3) (xI X 65 c) v X ∧ mRep c k n (xI X 46) (xI X m 2) (xI X m 3) (xI X 65 c) v X ∧ mS v = xI X m 4 ∧ mT v = xI X m 7 ∧ 0 ≤ mA v ∧ mA v < mB v := by
  obtain ⟨w1, ⟨wa, wb, wc⟩, w3, w4, w5, T, B, ⟨p1, p2, p, p3, p4, p5, p6, p7⟩, d1, d2, d3⟩ := w
  unfold bnd at wa
  have ck := clp wa.1
  have ek : xI X 64 c = nI (xI X 64 c).toNatClampNeg := nI_ofI wa.1
  obtain ⟨d, hd⟩ := hT.2.2.2 (xI X 64 c).toNatClampNeg (by omega)
  obtain ⟨t1, t2, t3, ⟨q, q1, q2, q3⟩, t5, t6, t7⟩ := id hd
  obtain ⟨a1, a2, a3, a4, a5, a6, a7, a8, a9, a10, a11, -⟩ := w1
  have hTB : 0 ≤ T ∧ T < B := by
    obtain ⟨_, _, _, _, _, _, _, _, _, z1, z2, _⟩ := p1
    exact ⟨z1, z2⟩
  have hp : (xI X 73 c).toNatClampNeg = p := by rw [p4]; exact nI_clamp (by omega)
  rw [hp] at d2 d3
  refine ⟨(xI X 64 c).toNatClampNeg, q, d, mkS (xI X m 4) (xJ X 74 c) (xJ X m 6) (xI X m 7) (xI X m 8) T B, by omega, q1, hd, q2, q3, ek, ⟨rfl, rfl, rfl, a8, rfl, rfl, rfl, wb.trans t1, ?_, T, B, p1, d1, rfl⟩, ⟨a1, a3, rfl, ek, a5, rfl, a9, a10, a11, ?_, p, p3, p4, p5, p6, p7, d2, d3⟩, rfl, rfl, hTB.1, hTB.2⟩
  · show 0 < B
    omega
  · show 0 < B
    omega
/-- the rest of a meter's plain numbers -/
def mRest (t m c : Nat) (X : AX) : Prop := xJ X 76 c = (xI X m 9).toInt64 ∧ bnd (xI X m 9) 0 (10000 * ((t : Int) + 1)) ∧ xJ X 77 c = (xI X m 10).toInt64 ∧ bnd (xI X m 10) 0 (10000 * ((t : Int) + 1)) ∧ xI X 70 c = xI X m 12 ∧ bnd (xI X m 12) 0 50 ∧ xI X 69 c = xI X m 13 ∧ 0 ≤ (xI X m 13).toInt ∧ (xI X m 13).toInt ≤ (xI X m 4).toInt ∧ bl (xI X m 14) ∧ 0 ≤ (xI X m 7).toInt ∧ (xI X m 7).toInt ≤ 501 * (xI X m 4).toInt
theorem all_of (hk : k < n) (hn : n ≤ 12) (h8 : xR Y 8 k = some d) (h46 : xI Y 46 = f) (hb : numOk f n) (hbg : bnd bg 0 86399) (hte : bnd te 1 200) (hrd : bnd rd 1 10000) (hs : bnd (mS v) 0 3840) (hc : cRep m d n f bg te rd v Y) (hm : mRep c k n f bg te rd v Y) (hr : mRest t m c Y) (h63 : bnd (xI Y 63 c) 0 ((n : Int) - 1)) (h1 : mCall n m c Y) (h2 : mHand n m c Y) (h3 : mDark m c Y) : mAll t n m c Y := by
  obtain ⟨r2, r3, r4, r5, r6, r7, r8, rt, rQ, T, B, rP, rB, rT⟩ := hc
  obtain ⟨m62, m66, m65, m64, m59, m74, m75, m67, m68, mQ, np, hp8, m73, mg, mN, mM, mD, mI⟩ := hm
  obtain ⟨hM0, hM⟩ := dM_lt hb hn hte
  have hTB : 0 ≤ T ∧ T < B := by
    obtain ⟨_, _, _, _, _, _, _, _, _, z1, z2, _⟩ := rP
    exact ⟨z1, z2⟩
  have hp : (xI Y 73 c).toNatClampNeg = np := by rw [m73]; exact nI_clamp (by omega)
  refine ⟨⟨?_, ?_, ?_, ?_, ?_, ?_, ?_, ?_, ?_, ?_, ?_, hr⟩, ⟨?_, ?_, h63⟩, h1, h2, h3, T, B, ⟨rP, ?_, np, hp8, m73, mg, ?_, mM⟩, ?_, ?_, ?_⟩
  · rw [m62, r2]
  · rw [r2]; exact hbg
  · rw [m66, r3]
  · rw [r3]; exact hte
  · rw [m59, r4]
  · rw [r4]; exact hs
  · rw [m65]; exact hrd
  · rw [r5, m74, m65]
  · rw [m75, r6]
  · rw [m67, r7]
  · rw [m68, r8]
  · rw [m64]
    unfold bnd
    rw [nI_toInt (by omega)]; omega
  · rw [rt, m64, nI_clamp (by omega), h8]
  · have z1 : B ≤ te.toInt * dPrd f n := Int.le_of_dvd hM0 rB
    have z2 : B.toNat < 2 ^ 600 := Nat.lt_of_le_of_lt (Int.toNat_le_toNat z1) hM
    exact lt600 z2
  · have e1 : fN' (cOv c Y) (cUn c Y) np * B * mB v = ((xI Y 72 c).toInt * B + T) * fD (cUn c Y) np * mB v := by
      have a1 : fN' (cOv c Y) (cUn c Y) np * B * mB v = fN' (cOv c Y) (cUn c Y) np * mB v * B := by grind
      have a2 : ((xI Y 72 c).toInt * B + T) * fD (cUn c Y) np * mB v = ((xI Y 72 c).toInt * B * mB v + T * mB v) * fD (cUn c Y) np := by grind
      rw [a1, a2, mN, rT]
      grind
    exact Int.eq_of_mul_eq_mul_right (by omega) e1
  · rw [r3, h46]; exact rB
  · rw [hp, r3, h46]; exact mD
  · rw [hp]; exact mI
theorem cRep_fr (a : ∀ i, m ≤ i → i ≤ m + 3 → xI Y i = xI X i) (b : xJ Y m = xJ X m) (e : xR Y m 1 = xR X m 1) (w : cRep m d n f bg te rd v X) : cRep m d n f bg te rd v Y := by
  obtain ⟨r2, r3, r4, r5, r6, r7, r8, rt, rQ, T, B, rP, rB, rT⟩ := w
  have am := a m (by omega) (by omega)
  refine ⟨by rw [am]; exact r2, by rw [am]; exact r3, by rw [am]; exact r4, by rw [b]; exact r5, by rw [b]; exact r6, by rw [am]; exact r7, by rw [am]; exact r8, e.trans rt, rQ, T, B, Pt_tr (by rw [a (m + 1) (by omega) (by omega)]) (fun j hj => ⟨by rw [a (m + 1 + 1) (by omega) (by omega)], by rw [a (m + 1 + 2) (by omega) (by omega)]⟩) rP, rB, rT⟩
theorem mRep_fr (a : ∀ i, i = 59 ∨ i = 62 ∨ i = 64 ∨ i = 65 ∨ i = 66 ∨ i = 67 ∨ i = 68 ∨ i = 72 ∨ i = 73 → xI Y i c = xI X i c) (b4 : xJ Y 74 c = xJ X 74 c) (b5 : xJ Y 75 c = xJ X 75 c) (e5 : xJ Y 85 = xJ X 85) (e6 : xJ Y 86 = xJ X 86) (w : mRep c k n f bg te rd v X) : mRep c k n f bg te rd v Y := by
  have c5 : cOv c Y = cOv c X := by unfold cOv; rw [e5]
  have c6 : cUn c Y = cUn c X := by unfold cUn; rw [e6]
  unfold mRep
  rw [a 59 (by decide), a 62 (by decide), a 64 (by decide), a 65 (by decide), a 66 (by decide), a 67 (by decide), a 68 (by decide), a 72 (by decide), a 73 (by decide), b4, b5, c5, c6]
  exact w
theorem rlH_fr {X Y : AX} (a : xI Y 4 9 = xI X 4 9) (b : xI Y 14 = xI X 14) (e : ∀ j, j = 7 ∨ j = 14 ∨ j = 15 ∨ j = 18 ∨ j = 19 → xI Y 42 j = xI X 42 j) (g : ∀ i, i = 58 ∨ i = 60 ∨ i = 61 ∨ i = 79 ∨ i = 80 → xI Y i 0 = xI X i 0) (w : rlH t h X) : rlH t h Y := by
  unfold rlH
  rw [a, b, e 7 (by decide), e 14 (by decide), e 15 (by decide), e 18 (by decide), e 19 (by decide), g 58 (by decide), g 60 (by decide), g 61 (by decide), g 79 (by decide), g 80 (by decide)]
  exact w
end Reps
