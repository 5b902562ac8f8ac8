/-! second and run: the relation behind them -/
section Ops
variable {L : Nat} {xs : Nat → Int32} {t n s h l : Nat} {X : AX} {K : Option AV → AX → Prop} {KX : String → AX → Prop}
variable {f ln nu dk : Nat → Int32} {k q d nd : Nat} {bg te rd : Int32} {Y X1 : AX}
def SecS : Type := MtS × Nat × (Nat → Int32) × Int32
def sM (x : SecS) : MtS := x.1
def sN (x : SecS) : Nat := x.2.1
def sD (x : SecS) : Nat → Int32 := x.2.2.1
def sZ (x : SecS) : Int32 := x.2.2.2
def mkT (a : MtS) (b : Nat) (c : Nat → Int32) (e : Int32) : SecS := (a, b, c, e)
noncomputable def psS (f : Nat → Int32) (k q : Nat) (bg te rd : Int32) (ln nu : Nat → Int32) (τ : Nat) (x : SecS) : SecS := mkT (tkG f k q bg te rd (pzI (plsF ln nu τ)) (sM x)) (ndS (plsF ln nu τ) (sN x)) (dkS (plsF ln nu τ) (sN x) (sD x) (nI τ)) (stS (plsF ln nu τ))
noncomputable def itS (f : Nat → Int32) (k q : Nat) (bg te rd : Int32) (ln nu : Nat → Int32) (τ : Nat) (x : SecS) : Nat → SecS
  | 0 => x
  | i + 1 => psS f k q bg te rd ln nu (τ + i) (itS f k q bg te rd ln nu τ x i)
theorem it_ok {τ : Nat} {x : SecS} (h1 : mS (sM x) = nI τ) (h2 : sN x ≤ τ) (hb : sZ x = 0 ∨ sZ x = 1) : ∀ i, mS (sM (itS f k q bg te rd ln nu τ x i)) = nI (τ + i) ∧ sN (itS f k q bg te rd ln nu τ x i) ≤ τ + i ∧ (sZ (itS f k q bg te rd ln nu τ x i) = 0 ∨ sZ (itS f k q bg te rd ln nu τ x i) = 1) ∧ sN x ≤ sN (itS f k q bg te rd ln nu τ x i) ∧ ∀ j, j < sN x → sD (itS f k q bg te rd ln nu τ x i) j = sD x j
  | 0 => ⟨h1, h2, hb, Nat.le_refl _, fun _ _ => rfl⟩
  | i + 1 => by
    obtain ⟨a1, a2, a3, a4, a5⟩ := it_ok h1 h2 hb i
    generalize hy : itS f k q bg te rd ln nu τ x i = y at a1 a2 a3 a4 a5
    have e : itS f k q bg te rd ln nu τ x (i + 1) = psS f k q bg te rd ln nu (τ + i) y := by rw [← hy]; try rfl
    rw [e]
    refine ⟨?_, ?_, ?_, ?_, fun j hj => ?_⟩
    · show mS (sM y) + 1 = nI (τ + (i + 1))
      rw [a1, nI_1]; try rfl
    · show ndS (plsF ln nu (τ + i)) (sN y) ≤ τ + (i + 1)
      unfold ndS
      by_cases z : plsF ln nu (τ + i) = -1
      · rw [if_pos z]; omega
      · rw [if_neg z]; omega
    · show stS (plsF ln nu (τ + i)) = 0 ∨ stS (plsF ln nu (τ + i)) = 1
      unfold stS
      by_cases z : plsF ln nu (τ + i) = 0
      · rw [if_pos z]; exact Or.inr rfl
      · rw [if_neg z]; exact Or.inl rfl
    · show sN x ≤ ndS (plsF ln nu (τ + i)) (sN y)
      unfold ndS
      by_cases z : plsF ln nu (τ + i) = -1
      · rw [if_pos z]; omega
      · rw [if_neg z]; omega
    · show dkS (plsF ln nu (τ + i)) (sN y) (sD y) (nI (τ + i)) j = sD x j
      unfold dkS
      by_cases z : plsF ln nu (τ + i) = -1
      · rw [if_pos z, stf_ne _ _ (by omega)]; exact a5 j hj
      · rw [if_neg z]; exact a5 j hj
def cST (d n : Nat) (f : Nat → Int32) (bg te rd : Int32) (x : SecS) (X : AX) : Prop := cRep 15 d n f bg te rd (sM x) X ∧ cDk (sN x) (sD x) (sZ x) X
def mST (c k n : Nat) (f : Nat → Int32) (bg te rd : Int32) (x : SecS) (X : AX) : Prop := mRep c k n f bg te rd (sM x) X ∧ mDk c (sN x) (sD x) (sZ x) X
/-- behind the class's part and before the reference's -/
def bw (X1 : AX) (v : Int64) : AX := (xS X1, u2 (xI X1) 42 0 0, u2 (xJ X1) 91 0 v, xR X1, xN X1)
set_option maxHeartbeats 1000000 in
theorem rel_sec (ht : t < 600) (H : Rel L xs t n s h l X) (h6 : (xI X 14 6).toInt = 1) {x : SecS} {v : Int64} (hk : k < n) (hd : rlT1 X k d) (hbg : bg = xI X 15 2) (hte : te = xI X 15 3) (hrd : rd = xI X 65 0) (hx : bnd (mS (sM x)) 0 3840) (hxn : sN x ≤ (mS (sM x)).toNatClampNeg) (hbl : sZ x = 0 ∨ sZ x = 1) (hst : 0 ≤ (mT (sM x)).toInt ∧ (mT (sM x)).toInt ≤ 501 * (mS (sM x)).toInt) (hmono : (xI X 15 13).toNatClampNeg ≤ sN x ∧ ∀ j, j < (xI X 15 13).toNatClampNeg → sD x j = xI X 20 j) (hP : PaF X X1) (hc : cST d n (xI X 46) bg te rd x X1) (hQ : RwF 0 (bw X1 v) Y) (hm : mST 0 k n (xI X 46) bg te rd x Y) : Rel L xs (t + 1) n s h l Y ∧ xI Y 42 0 = 0 ∧ xJ Y 91 0 = v := by
  obtain ⟨hS, hW, hR, hT, hL, hE, hKk, hH, hC, hG⟩ := H
  obtain ⟨p1, p2, p3, p4, p5, p6⟩ := hP
  obtain ⟨q1, q2, q3, q4, q5, q6, q7, q8, q9, q10⟩ := hQ
  have rI' : ∀ i, (i < 15 ∨ 20 < i) → i ≠ 42 → i ≠ 59 → i ≠ 67 → i ≠ 68 → i ≠ 69 → i ≠ 72 → i ≠ 73 → i ≠ 78 → i ≠ 82 → xI Y i = xI X i := fun i c0 c1 c2 c3 c4 c5 c6 c7 c8 c9 => by
    rw [q4 i c1 c2 c3 c4 c5 c6 c7 c8 c9]
    show u2 (xI X1) 42 0 0 i = _
    rw [u2_ne _ _ _ c1]; exact p4 i c0
  have rC : ∀ i, 15 ≤ i → i ≤ 20 → xI Y i = xI X1 i := fun i c1 c2 => by
    rw [q4 i (by omega) (by omega) (by omega) (by omega) (by omega) (by omega) (by omega) (by omega) (by omega)]
    show u2 (xI X1) 42 0 0 i = _
    rw [u2_ne _ _ _ (by omega)]
  have r42 : ∀ j, j ≠ 0 → j ≠ 59 → j ≠ 60 → xI Y 42 j = xI X 42 j := fun j c1 c2 c3 => by
    rw [q5 j c2 c3]
    show u2 (xI X1) 42 0 0 42 j = _
    rw [u2_at, if_neg c1, p4 42 (by decide)]
  have r15 : ∀ j, j ≠ 4 → j ≠ 7 → j ≠ 8 → j ≠ 13 → j ≠ 14 → xI Y 15 j = xI X 15 j := fun j c1 c2 c3 c4 c5 => by
    rw [rC 15 (by decide) (by decide)]; exact p5 j c1 c2 c3 c4 c5
  have r1 : ∀ i j, (i < 15 ∨ 20 < i) → i ≠ 42 → i ≠ 82 → j ≠ 0 → xI Y i j = xI X i j := fun i j c0 c1 c2 c3 => by
    rw [q6 i j c1 c2 c3]
    show u2 (xI X1) 42 0 0 i j = _
    rw [u2_ne _ _ _ c1, p4 i c0]
  have rJ : ∀ i, i ≠ 15 → i ≠ 91 → (i < 74 ∨ 75 < i) → (i < 85 ∨ 90 < i) → xJ Y i = xJ X i := fun i c1 c2 c3 c4 => by
    rw [q7 i c3 c4]
    show u2 (xJ X1) 91 0 v i = _
    rw [u2_ne _ _ _ c2]; exact p6 i c1
  have rJ1 : ∀ i j, i ≠ 15 → i < 85 → j ≠ 0 → xJ Y i j = xJ X i j := fun i j c1 c2 c3 => by
    rw [q8 i j c2 c3]
    show u2 (xJ X1) 91 0 v i j = _
    rw [u2_ne _ _ _ (by omega), p6 i c1]
  have rJ8 : ∀ j, 80 ≤ j → xJ Y 85 j = xJ X 85 j ∧ xJ Y 86 j = xJ X 86 j := fun j c1 => by
    obtain ⟨a, b⟩ := q9 j (by omega)
    refine ⟨a.trans ?_, b.trans ?_⟩
    · show xJ X1 85 j = _
      rw [p6 85 (by decide)]
    · show xJ X1 86 j = _
      rw [p6 86 (by decide)]
  have r82 : ∀ j, 3840 ≤ j → xI Y 82 j = xI X 82 j := fun j c1 => by
    rw [q10 j (by omega)]
    show xI X1 82 j = _
    rw [p4 82 (by decide)]
  have rR : xR Y = xR X := q2.trans p2
  have rS : xS Y = xS X := q1.trans p1
  have rN : xN Y = xN X := q3.trans p3
  have hi : ∀ i, 92 ≤ i → xI Y i = xI X i := fun i c1 => rI' i (by omega) (by omega) (by omega) (by omega) (by omega) (by omega) (by omega) (by omega) (by omega) (by omega)
  obtain ⟨g1, g2, ⟨g3a, g3b, g3c, g3d⟩, g4a, g4b, g4c⟩ := rlG_up hG
  obtain ⟨hall, g66, g65, g78, gf⟩ := g1 h6
  obtain ⟨w1, w2, w3, w4, w5, -⟩ := id hall
  obtain ⟨lim1, lim2⟩ := m_lim w1
  obtain ⟨a1, a2, a3, a4, a5, a6, a7, a8, a9, a10, a11, a12, a13, a14, a15, a16, a17, a18, a19, a20, a21, a22, a23⟩ := id w1
  have hn12 := hT.2.2.1
  have hcY : cRep 15 d n (xI X 46) bg te rd (sM x) Y := cRep_fr (fun i c1 c2 => rC i c1 (by omega)) (by rw [q7 15 (by decide) (by decide)]; rfl) (by rw [q2]; rfl) hc.1
  have hdY : cDk (sN x) (sD x) (sZ x) Y := by
    obtain ⟨e1, e2, e3⟩ := hc.2
    exact ⟨by rw [rC 15 (by decide) (by decide)]; exact e1, fun j hj => by rw [rC 20 (by decide) (by decide)]; exact e2 j hj, by rw [rC 15 (by decide) (by decide)]; exact e3⟩
  obtain ⟨e1, e2, e3⟩ := hdY
  obtain ⟨hmR, f1, f2, f3⟩ := hm
  have hx' := hx
  unfold bnd at hx'
  have hxc := clp hx'.1
  have e4 : xI Y 15 4 = mS (sM x) := hcY.2.2.1
  have e7 : xI Y 15 7 = mT (sM x) := hcY.2.2.2.2.2.1
  have eN : (nI (sN x)).toInt = sN x := nI_toInt (by omega)
  have eC : (nI (sN x)).toNatClampNeg = sN x := nI_clamp (by omega)
  have z63 : xI Y 63 = xI X 63 := rI' 63 (by decide) (by decide) (by decide) (by decide) (by decide) (by decide) (by decide) (by decide) (by decide) (by decide)
  have z64 : xI Y 64 = xI X 64 := rI' 64 (by decide) (by decide) (by decide) (by decide) (by decide) (by decide) (by decide) (by decide) (by decide) (by decide)
  have z45 : xI Y 45 = xI X 45 := rI' 45 (by decide) (by decide) (by decide) (by decide) (by decide) (by decide) (by decide) (by decide) (by decide) (by decide)
  have z46 : xI Y 46 = xI X 46 := rI' 46 (by decide) (by decide) (by decide) (by decide) (by decide) (by decide) (by decide) (by decide) (by decide) (by decide)
  have z81 : xI Y 81 = xI X 81 := rI' 81 (by decide) (by decide) (by decide) (by decide) (by decide) (by decide) (by decide) (by decide) (by decide) (by decide)
  have z83 : xI Y 83 = xI X 83 := rI' 83 (by decide) (by decide) (by decide) (by decide) (by decide) (by decide) (by decide) (by decide) (by decide) (by decide)
  have z84 : xI Y 84 = xI X 84 := rI' 84 (by decide) (by decide) (by decide) (by decide) (by decide) (by decide) (by decide) (by decide) (by decide) (by decide)
  have z21 : xI Y 21 = xI X 21 := rI' 21 (by decide) (by decide) (by decide) (by decide) (by decide) (by decide) (by decide) (by decide) (by decide) (by decide)
  have z70 : xI Y 70 = xI X 70 := rI' 70 (by decide) (by decide) (by decide) (by decide) (by decide) (by decide) (by decide) (by decide) (by decide) (by decide)
  have z4 : xI Y 4 = xI X 4 := rI' 4 (by decide) (by decide) (by decide) (by decide) (by decide) (by decide) (by decide) (by decide) (by decide) (by decide)
  have z14 : xI Y 14 = xI X 14 := rI' 14 (by decide) (by decide) (by decide) (by decide) (by decide) (by decide) (by decide) (by decide) (by decide) (by decide)
  have z24 : ∀ i, 24 ≤ i → i ≤ 28 → xI Y i = xI X i := fun i c1 c2 => rI' i (by omega) (by omega) (by omega) (by omega) (by omega) (by omega) (by omega) (by omega) (by omega) (by omega)
  have y9 := r15 9 (by decide) (by decide) (by decide) (by decide) (by decide)
  have y10 := r15 10 (by decide) (by decide) (by decide) (by decide) (by decide)
  have y11 := r15 11 (by decide) (by decide) (by decide) (by decide) (by decide)
  have y12 := r15 12 (by decide) (by decide) (by decide) (by decide) (by decide)
  have hallY : mAll (t + 1) n 15 0 Y := by
    refine all_of (v := sM x) hk hn12 (by rw [rR]; exact hd.1) z46 (num_of hT) (by rw [hbg]; exact a2) (by rw [hte]; exact a4) (by rw [hrd]; exact a7) hx hcY hmR ⟨?_, ?_, ?_, ?_, ?_, ?_, ?_, ?_, ?_, ?_, ?_, ?_⟩ ?_ ?_ ?_ ?_
    · rw [rJ 76 (by decide) (by decide) (by decide) (by decide), y9]; exact a12
    · rw [y9]; exact a13
    · rw [rJ 77 (by decide) (by decide) (by decide) (by decide), y10]; exact a14
    · rw [y10]; exact a15
    · rw [z70, y12]; exact a16
    · rw [y12]; exact a17
    · rw [f1, e1]
    · rw [e1, eN]; omega
    · rw [e1, eN, e4]; omega
    · rw [e3]; exact hbl
    · rw [e7]; exact hst.1
    · rw [e7, e4]; exact hst.2
    · rw [z63]; exact w2.2.2
    · intro k hk
      rw [y11, z81, z45]; exact w3 k hk
    · unfold mHand hTo
      rw [y12, z83, z84, z21, z63, z64, rR]; exact w4
    · intro j hj
      rw [e1, eC] at hj
      rw [f2 j hj, e2 j hj]
  refine ⟨⟨rlS_n hS rS (rI' 0 (by decide) (by decide) (by decide) (by decide) (by decide) (by decide) (by decide) (by decide) (by decide) (by decide)) (rI' 1 (by decide) (by decide) (by decide) (by decide) (by decide) (by decide) (by decide) (by decide) (by decide) (by decide)) (rI' 2 (by decide) (by decide) (by decide) (by decide) (by decide) (by decide) (by decide) (by decide) (by decide) (by decide)) (rI' 3 (by decide) (by decide) (by decide) (by decide) (by decide) (by decide) (by decide) (by decide) (by decide) (by decide)) (by omega), rlW_fr (by rw [z4]) (by rw [z4]) (r42 1 (by decide) (by decide) (by decide)) (r42 2 (by decide) (by decide) (by decide)) hW, rlR_fr (rI' 6 (by decide) (by decide) (by decide) (by decide) (by decide) (by decide) (by decide) (by decide) (by decide) (by decide)) (rI' 7 (by decide) (by decide) (by decide) (by decide) (by decide) (by decide) (by decide) (by decide) (by decide) (by decide)) (rI' 43 (by decide) (by decide) (by decide) (by decide) (by decide) (by decide) (by decide) (by decide) (by decide) (by decide)) (rI' 44 (by decide) (by decide) (by decide) (by decide) (by decide) (by decide) (by decide) (by decide) (by decide) (by decide)) hR, rlT_fr hi z45 z46 (by rw [rR]) rS (by omega) (by rw [z4]) (r42 5 (by decide) (by decide) (by decide)) hT, rlL_fr (rI' 9 (by decide) (by decide) (by decide) (by decide) (by decide) (by decide) (by decide) (by decide) (by decide) (by decide)) (rI' 10 (by decide) (by decide) (by decide) (by decide) (by decide) (by decide) (by decide) (by decide) (by decide) (by decide)) (rI' 47 (by decide) (by decide) (by decide) (by decide) (by decide) (by decide) (by decide) (by decide) (by decide) (by decide)) (rI' 48 (by decide) (by decide) (by decide) (by decide) (by decide) (by decide) (by decide) (by decide) (by decide) (by decide)) hL, rlE_fr (by rw [(rI' 11 (by decide) (by decide) (by decide) (by decide) (by decide) (by decide) (by decide) (by decide) (by decide) (by decide))]) (r42 6 (by decide) (by decide) (by decide)) (rI' 12 (by decide) (by decide) (by decide) (by decide) (by decide) (by decide) (by decide) (by decide) (by decide) (by decide)) (rI' 13 (by decide) (by decide) (by decide) (by decide) (by decide) (by decide) (by decide) (by decide) (by decide) (by decide)) (rI' 49 (by decide) (by decide) (by decide) (by decide) (by decide) (by decide) (by decide) (by decide) (by decide) (by decide)) (rI' 50 (by decide) (by decide) (by decide) (by decide) (by decide) (by decide) (by decide) (by decide) (by decide) (by decide)) hE, rlK_fr (by rw [(rI' 34 (by decide) (by decide) (by decide) (by decide) (by decide) (by decide) (by decide) (by decide) (by decide) (by decide))]) (by rw [(rI' 34 (by decide) (by decide) (by decide) (by decide) (by decide) (by decide) (by decide) (by decide) (by decide) (by decide))]) (r42 25 (by decide) (by decide) (by decide)) (rI' 35 (by decide) (by decide) (by decide) (by decide) (by decide) (by decide) (by decide) (by decide) (by decide) (by decide)) (rI' 36 (by decide) (by decide) (by decide) (by decide) (by decide) (by decide) (by decide) (by decide) (by decide) (by decide)) (rI' 56 (by decide) (by decide) (by decide) (by decide) (by decide) (by decide) (by decide) (by decide) (by decide) (by decide)) (rI' 57 (by decide) (by decide) (by decide) (by decide) (by decide) (by decide) (by decide) (by decide) (by decide) (by decide)) hKk, rlH_fr (by rw [z4]) z14 (fun j hj => r42 j (by omega) (by omega) (by omega)) (fun i hi' => by rw [rI' i (by omega) (by omega) (by omega) (by omega) (by omega) (by omega) (by omega) (by omega) (by omega) (by omega)]) (rlH_up hH), rlC_fr hi (rI' 23 (by decide) (by decide) (by decide) (by decide) (by decide) (by decide) (by decide) (by decide) (by decide) (by decide)) (rI' 51 (by decide) (by decide) (by decide) (by decide) (by decide) (by decide) (by decide) (by decide) (by decide) (by decide)) (rI' 52 (by decide) (by decide) (by decide) (by decide) (by decide) (by decide) (by decide) (by decide) (by decide) (by decide)) (rI' 53 (by decide) (by decide) (by decide) (by decide) (by decide) (by decide) (by decide) (by decide) (by decide) (by decide)) (rI' 54 (by decide) (by decide) (by decide) (by decide) (by decide) (by decide) (by decide) (by decide) (by decide) (by decide)) (rI' 55 (by decide) (by decide) (by decide) (by decide) (by decide) (by decide) (by decide) (by decide) (by decide) (by decide)) (by rw [rR]) rS (by omega) (by rw [z14]) hC, ?_⟩, ?_, ?_⟩
  · refine ⟨fun _ => ⟨hallY, ?_, ?_, ?_, ?_, ?_⟩, fun z => by rw [z14] at z; exact absurd (h6.symm.trans z) (by decide), ⟨?_, ?_, ?_, ?_⟩, ?_, ?_, ?_⟩
    · rw [(rI' 66 (by decide) (by decide) (by decide) (by decide) (by decide) (by decide) (by decide) (by decide) (by decide) (by decide)), z4]; exact g66
    · rw [(rI' 65 (by decide) (by decide) (by decide) (by decide) (by decide) (by decide) (by decide) (by decide) (by decide) (by decide)), z4]; exact g65
    · rw [f3, e3]
    · rw [rR, z63]; exact gf.1
    · rw [(rI' 79 (by decide) (by decide) (by decide) (by decide) (by decide) (by decide) (by decide) (by decide) (by decide) (by decide))]; exact gf.2
    · rw [r42 16 (by decide) (by decide) (by decide)]; exact g3a
    · rw [r42 16 (by decide) (by decide) (by decide), z4]; exact g3b
    · rw [r42 16 (by decide) (by decide) (by decide), z4, (rI' 58 (by decide) (by decide) (by decide) (by decide) (by decide) (by decide) (by decide) (by decide) (by decide) (by decide))]; exact g3c
    · rw [z14, z4]
      intro c1 c2
      obtain ⟨iall, i66, i65, i78, i63, i60, i61, i79, i80, i12, i13⟩ := g3d c1 c2
      have b19 := iall.1.2.2.2.2.2.2.2.2.2.2.2.2.2.2.2.2.2.2.1
      have hcl := clp b19
      have hcl2 := clp a19
      refine ⟨mAll_tr (X := X) (m := 24) (c := 1) ⟨fun j c1 c2 _ => by rw [z24 24 (by decide) (by decide)], ⟨by rw [rJ 24 (by decide) (by decide) (by decide) (by decide)], by rw [rJ 24 (by decide) (by decide) (by decide) (by decide)]⟩, by rw [rR], ⟨by rw [z24 25 (by decide) (by decide)], fun j hj => ⟨by rw [z24 26 (by decide) (by decide)], by rw [z24 27 (by decide) (by decide)]⟩⟩, fun i c1 c2 _ _ _ => r1 i 1 (by omega) (by omega) (by omega) (by decide), fun i c1 c2 => rJ1 i 1 (by omega) (by omega) (by decide), fun j hj => by rw [z81], fun j hj => ⟨r82 _ (by omega), ?_⟩, fun j hj => ⟨by rw [z83], by rw [z84], by rw [z21], by rw [rR]⟩, fun j hj => rJ8 _ (by omega), z45, z46, by rw [rR]⟩ iall, ?_, ?_, ?_, ?_, ?_, ?_, ?_, ?_, ?_, ?_⟩
      · have hj' : j < (xI X 15 13).toNatClampNeg := by omega
        rw [e2 j (by omega)]; exact hmono.2 j hj'
      · rw [(rI' 66 (by decide) (by decide) (by decide) (by decide) (by decide) (by decide) (by decide) (by decide) (by decide) (by decide))]; exact i66
      · rw [(rI' 65 (by decide) (by decide) (by decide) (by decide) (by decide) (by decide) (by decide) (by decide) (by decide) (by decide))]; exact i65
      · rw [r1 78 1 (by decide) (by decide) (by decide) (by decide), z24 24 (by decide) (by decide)]; exact i78
      · rw [z63]; exact i63
      · rw [(rI' 60 (by decide) (by decide) (by decide) (by decide) (by decide) (by decide) (by decide) (by decide) (by decide) (by decide))]; exact i60
      · rw [(rI' 61 (by decide) (by decide) (by decide) (by decide) (by decide) (by decide) (by decide) (by decide) (by decide) (by decide))]; exact i61
      · rw [(rI' 79 (by decide) (by decide) (by decide) (by decide) (by decide) (by decide) (by decide) (by decide) (by decide) (by decide))]; exact i79
      · rw [(rI' 80 (by decide) (by decide) (by decide) (by decide) (by decide) (by decide) (by decide) (by decide) (by decide) (by decide))]; exact i80
      · rw [z24 24 (by decide) (by decide), y12]; exact i12
      · rw [z24 24 (by decide) (by decide), e1, eN]
        omega
    · rw [r42 17 (by decide) (by decide) (by decide), z4]; exact g4a
    · rw [z4]; exact g4b
    · rw [z4]
      intro w
      obtain ⟨u, T, B, v'⟩ := g4c w
      refine ⟨?_, T, B, mFrac_fr (X := X) ?_ ?_ ?_ ?_ ?_ ?_ ?_ v'⟩
      · rw [r1 67 4 (by decide) (by decide) (by decide) (by decide), (rI' 37 (by decide) (by decide) (by decide) (by decide) (by decide) (by decide) (by decide) (by decide) (by decide) (by decide))]; exact u
      · rw [show xI Y (37 + 1) = xI X (37 + 1) from (rI' 38 (by decide) (by decide) (by decide) (by decide) (by decide) (by decide) (by decide) (by decide) (by decide) (by decide))]
      · exact (rI' 39 (by decide) (by decide) (by decide) (by decide) (by decide) (by decide) (by decide) (by decide) (by decide) (by decide))
      · exact (rI' 40 (by decide) (by decide) (by decide) (by decide) (by decide) (by decide) (by decide) (by decide) (by decide) (by decide))
      · exact r1 72 4 (by decide) (by decide) (by decide) (by decide)
      · exact r1 73 4 (by decide) (by decide) (by decide) (by decide)
      · funext j
        exact (rJ8 (80 * 4 + j) (by omega)).1
      · funext j
        exact (rJ8 (80 * 4 + j) (by omega)).2
  · rw [q5 0 (by decide) (by decide)]; try rfl
  · rw [q7 91 (by decide) (by decide)]; try rfl
end Ops
