/-! the reference's second -/
section Psm
variable {S : Nat → Nat × Nat} {I : Nat → Nat → Int32} {J : Nat → Nat → Int64} {R : Nat → Nat → Option Nat} {nn : Nat} {K : Option AV → AX → Prop} {KX : String → AX → Prop} {f : Nat → Int32} {k q n c : Nat} {bg te rd : Int32} {s : MtS} {p : Int64}
theorem u2_nj {α : Type} {g : Nat → Nat → α} {i k a b : Nat} {v : α} (h : b ≠ k) : u2 g i k v a b = g a b := by
  by_cases e : a = i
  · subst e; rw [u2_at, if_neg h]
  · rw [u2_ne _ _ _ e]
/-- the reference's cells of a meter -/
def mRep (c k n : Nat) (f : Nat → Int32) (bg te rd : Int32) (s : MtS) (X : AX) : Prop :=
  xI X 62 c = bg ∧ xI X 66 c = te ∧ xI X 65 c = rd ∧ xI X 64 c = nI k ∧ xI X 59 c = mS s ∧ xJ X 74 c = mW s ∧ xJ X 75 c = mFr s ∧ xI X 67 c = mT s ∧ xI X 68 c = mP s ∧ 0 < mB s ∧
  ∃ p : Nat, p ≤ 80 ∧ xI X 73 c = nI p ∧ goodP (cOv c X) (cUn c X) p ∧ fN' (cOv c X) (cUn c X) p * mB s = ((xI X 72 c).toInt * mB s + mA s) * fD (cUn c X) p ∧ bnd (xI X 72 c) 0 80 ∧ (∀ i, i < p → ∃ j, j < 3 * n ∧ (cUn c X i).toInt = dSet f te.toInt j) ∧ ∀ i j, i < j → j < p → ¬ cUn c X i = cUn c X j
/-- what a second leaves as it was -/
def PsF (c : Nat) (X X' : AX) : Prop := xS X' = xS X ∧ xR X' = xR X ∧ xN X' = xN X ∧ (∀ i, i ≠ 42 → i ≠ 59 → i ≠ 67 → i ≠ 68 → i ≠ 72 → i ≠ 73 → xI X' i = xI X i) ∧ (∀ j, j ≠ 59 → j ≠ 60 → xI X' 42 j = xI X 42 j) ∧ (∀ i j, i ≠ 42 → j ≠ c → xI X' i j = xI X i j) ∧ (∀ i, (i < 74 ∨ 75 < i) → (i < 85 ∨ 90 < i) → xJ X' i = xJ X i) ∧ (∀ i j, i < 85 → j ≠ c → xJ X' i j = xJ X i j) ∧ ∀ j, j < 80 * c ∨ 80 * c + 80 ≤ j → xJ X' 85 j = xJ X 85 j ∧ xJ X' 86 j = xJ X 86 j
theorem PsF.trans {c : Nat} {X Y Z : AX} (h1 : PsF c X Y) (h2 : PsF c Y Z) : PsF c X Z := by
  obtain ⟨a1, a2, a3, a4, a5, a6, a7, a8, a9⟩ := h1
  obtain ⟨b1, b2, b3, b4, b5, b6, b7, b8, b9⟩ := h2
  exact ⟨b1.trans a1, b2.trans a2, b3.trans a3, fun i c1 c2 c3 c4 c5 c6 => (b4 i c1 c2 c3 c4 c5 c6).trans (a4 i c1 c2 c3 c4 c5 c6), fun j c1 c2 => (b5 j c1 c2).trans (a5 j c1 c2), fun i j c1 c2 => (b6 i j c1 c2).trans (a6 i j c1 c2), fun i c1 c2 => (b7 i c1 c2).trans (a7 i c1 c2), fun i j c1 c2 => (b8 i j c1 c2).trans (a8 i j c1 c2), fun j c1 => ⟨(b9 j c1).1.trans (a9 j c1).1, (b9 j c1).2.trans (a9 j c1).2⟩⟩
set_option maxHeartbeats 4000000 in
theorem s_passes (hc : c < 5) (hk : k < n) (hn : n ≤ 12) (hq : q < 5) (h45 : I 45 k = nI q) (hf : ∀ j, j < 15 → I 46 (15 * k + j) = f (15 * k + j)) (hb : numOk f n) (hte : bnd te 1 200) (hw0 : 0 ≤ p.toInt * rd.toInt) (hw1 : p.toInt * rd.toInt ≤ 10000000) (hwp : (p * rd.toInt64).toInt = p.toInt * rd.toInt) (hR : mRep c k n f bg te rd s (S, I, J, R, nn))
    (hK : ∀ X', PsF c (S, I, J, R, nn) X' → mRep c k n f bg te rd (tkG f k q bg te rd p s) X' → K (some (vI (tkV f k q te rd p s))) X') : w_X12_passes tb0 [vR (some 42), vI (nI c), vL p] (S, I, J, R, nn) K KX := by
  obtain ⟨m62, m66, m65, m64, m59, m74, m75, m67, m68, mQ, np, hp8, m73, mg, mN, mM, mD, mI⟩ := hR
  have hte' := hte
  unfold bnd at hte'
  have ec : (nI c).toNatClampNeg = c := nI_clamp (by omega)
  have ek : (nI k).toNatClampNeg = k := nI_clamp (by omega)
  have vc : vp_in (nI c) 5 := vp_in_nI (by omega) (by decide)
  have e62 : xI (S, I, J, R, nn) 62 (nI c).toNatClampNeg = bg := by rw [ec]; exact m62
  have e66 : xI (S, I, J, R, nn) 66 (nI c).toNatClampNeg = te := by rw [ec]; exact m66
  have e65 : xI (S, I, J, R, nn) 65 (nI c).toNatClampNeg = rd := by rw [ec]; exact m65
  have e64 : xI (S, I, J, R, nn) 64 (nI c).toNatClampNeg = nI k := by rw [ec]; exact m64
  have e59 : xI (S, I, J, R, nn) 59 (nI c).toNatClampNeg = mS s := by rw [ec]; exact m59
  have e74 : xJ (S, I, J, R, nn) 74 (nI c).toNatClampNeg = mW s := by rw [ec]; exact m74
  have x45 : xI (S, I, J, R, nn) 45 k = nI q := h45
  have x46 : ∀ j, j < 15 → xI (S, I, J, R, nn) 46 (15 * k + j) = f (15 * k + j) := hf
  obtain ⟨n3, n4, n5, n10⟩ := num_at hb hk
  obtain ⟨dd1, dd2⟩ := tkD_bd (q := q) hb hk hte (w := mW s * rd.toInt64) (A := p.toInt * rd.toInt)
  have dset := (tkD_set (f := f) (q := q) (te := te) hk (w := mW s * rd.toInt64) (A := p.toInt * rd.toInt)).1
  have np36 : np ≤ 36 := by
    have hch : ∀ i, ∃ j, i < np → j < 3 * n ∧ (cUn c (S, I, J, R, nn) i).toInt = dSet f te.toInt j := fun i => by
      by_cases hi : i < np
      · obtain ⟨j, hj⟩ := mD i hi
        exact ⟨j, fun _ => hj⟩
      · exact ⟨0, fun z => absurd z hi⟩
    obtain ⟨g, hg⟩ := Classical.axiomOfChoice hch
    have := pig (3 * n) np g (fun i hi => (hg i hi).1) (fun i j hij hj e => mI i j hij hj (Int64.toInt_inj.mp ((hg i (by omega)).2.trans (by rw [e]; exact (hg j hj).2.symm))))
    omega
  have k204 : ∀ (l5 l7 l12 : Int32) (l8 l10 a d : Int64) X' (v : Int32) (w : Int) (p' q' : Nat), a.toInt = tkN f k te (p.toInt * rd.toInt) → d.toInt = tkD f k q te (mW s * rd.toInt64) (p.toInt * rd.toInt) → FrM (S, I, J, R, nn) X' → p' ≤ 80 → xI X' 73 = stf (I 73) c (nI p') → xI X' 72 = stf (I 72) c (nI q') → (∀ j, j < 80 * c ∨ 80 * c + 80 ≤ j → xJ X' 85 j = J 85 j ∧ xJ X' 86 j = J 86 j) → goodP (cOv c X') (cUn c X') p' → fN' (cOv c X') (cUn c X') p' / fD (cUn c X') p' = q' →
      fN' (cOv c X') (cUn c X') p' * (fD (cUn c (S, I, J, R, nn)) np * d.toInt) = (fN' (cOv c (S, I, J, R, nn)) (cUn c (S, I, J, R, nn)) np * d.toInt + (a.toInt - w * d.toInt) * fD (cUn c (S, I, J, R, nn)) np) * fD (cUn c X') p' → v.toInt = w + q' - (I 72 c).toInt →
      ((p' = np ∧ ∀ k, k < np → cUn c X' k = cUn c (S, I, J, R, nn) k) ∨ (p' = np + 1 ∧ (∀ k, k < np → cUn c X' k = cUn c (S, I, J, R, nn) k ∧ ¬ cUn c X' k = d) ∧ cUn c X' np = d)) → r_X12_passes tb0 K KX 204 [some (vR (some 42)), some (vI (nI c)), some (vL p), none, some (vI (nI k)), some (vI l5), some (vI (tkPr f k q bg (mS s))), some (vI l7), some (vL l8), none, some (vL l10), none, some (vI l12), none, none] [vI v] X' 0 0 := by
    intro l5 l7 l12 l8 l10 a d X' v w p' q' ea ed hF hp' h73 h72 hout hg' hfl hE hv hun
    have hD := fD_pos mg
    have hD1 := fD_pos hg'
    have hrf := tk_ref (n := a.toInt) (d := d.toInt) (w := w) hD mQ (by omega) hD1 mN hE
    rw [hfl] at hrf
    have hv2 : w + (q' : Int) - (xI (S, I, J, R, nn) 72 c).toInt = v.toInt := hv.symm
    rw [hv2] at hrf
    have ev : v = tkV f k q te rd p s := by
      unfold tkV tkU
      rw [← ea, ← ed, hrf.1, Int32.ofInt_toInt]
    have hq80 : q' ≤ 80 := by
      have z1 := (fN_rng hg').2.1
      have z2 := Int.mul_ediv_add_emod (fN' (cOv c X') (cUn c X') p') (fD (cUn c X') p')
      have z3 := Int.emod_nonneg (fN' (cOv c X') (cUn c X') p') (show fD (cUn c X') p' ≠ 0 by omega)
      rw [hfl] at z2
      have z4 : (q' : Int) * fD (cUn c X') p' ≤ (p' : Int) * fD (cUn c X') p' := by
        rw [Int.mul_comm (q' : Int)]; omega
      have z5 := Int.le_of_mul_le_mul_right z4 hD1
      omega
    obtain ⟨f1, f2, f3, f4, f5, f6⟩ := hF
    have i59 : xI X' 59 c = mS s := by rw [f4 59 (by decide) (by decide) (by decide)]; exact m59
    have i67 : xI X' 67 c = mT s := by rw [f4 67 (by decide) (by decide) (by decide)]; exact m67
    have i68 : xI X' 68 c = mP s := by rw [f4 68 (by decide) (by decide) (by decide)]; exact m68
    have j74 : xJ X' 74 c = mW s := by rw [f6 74 (by decide)]; exact m74
    have j75 : xJ X' 75 c = mFr s := by rw [f6 75 (by decide)]; exact m75
    have kf : ∀ s0, s0 = tkM (mP s) v → K (some (vI v)) (xS X', u2 (u2 (u2 (xI X') 59 c (xI X' 59 c + 1)) 67 c (xI X' 67 c + v)) 68 c (xI X' 68 c - s0), u2 (u2 (xJ X') 74 c (xJ X' 74 c + p)) 75 c (xJ X' 75 c + (v - s0).toInt64 * (tkPr f k q bg (mS s)).toInt64), xR X', xN X') := by
      intro s0 hs0
      subst hs0
      rw [i59, i67, i68, j74, j75]
      subst ev
      refine hK _ ⟨f1, f2, f3, fun i c1 c2 c3 c4 c5 c6 => ?_, fun j c1 c2 => ?_, fun i j c1 c2 => ?_, fun i c1 c2 => ?_, fun i j c1 c2 => ?_, fun j c1 => ?_⟩ ⟨?_, ?_, ?_, ?_, ?_, ?_, ?_, ?_, ?_, ?_, p', hp', ?_, hg', ?_, ?_, ?_, ?_⟩
      · show u2 (u2 (u2 (xI X') 59 c _) 67 c _) 68 c _ i = I i
        rw [u2_ne _ _ _ c4, u2_ne _ _ _ c3, u2_ne _ _ _ c2]; exact f4 i c1 c5 c6
      · show xI X' 42 j = I 42 j
        exact f5 j c1 c2
      · show u2 (u2 (u2 (xI X') 59 c _) 67 c _) 68 c _ i j = I i j
        rw [u2_nj c2, u2_nj c2, u2_nj c2]
        by_cases z2 : i = 72
        · rw [z2, h72]; unfold stf; rw [if_neg c2]
        · by_cases z3 : i = 73
          · rw [z3, h73]; unfold stf; rw [if_neg c2]
          · rw [f4 i c1 z2 z3]; try rfl
      · show u2 (u2 (xJ X') 74 c _) 75 c _ i = J i
        rw [u2_ne _ _ _ (by omega), u2_ne _ _ _ (by omega)]; exact f6 i c2
      · show u2 (u2 (xJ X') 74 c _) 75 c _ i j = J i j
        rw [u2_nj c2, u2_nj c2, f6 i (by omega)]; try rfl
      · exact hout j c1
      · show xI X' 62 c = bg
        rw [f4 62 (by decide) (by decide) (by decide)]; exact m62
      · show xI X' 66 c = te
        rw [f4 66 (by decide) (by decide) (by decide)]; exact m66
      · show xI X' 65 c = rd
        rw [f4 65 (by decide) (by decide) (by decide)]; exact m65
      · show xI X' 64 c = nI k
        rw [f4 64 (by decide) (by decide) (by decide)]; exact m64
      · show u2 (xI X') 59 c (mS s + 1) 59 c = mS s + 1
        rw [u2_at, if_pos rfl]
      · show u2 (xJ X') 74 c (mW s + p) 74 c = mW s + p
        rw [u2_at, if_pos rfl]
      · show u2 (u2 (xJ X') 74 c (mW s + p)) 75 c _ 75 c = mFr s + _
        rw [u2_at, if_pos rfl]; try rfl
      · show u2 (u2 (xI X') 59 c (mS s + 1)) 67 c _ 67 c = mT s + _
        rw [u2_at, if_pos rfl]; try rfl
      · show u2 (u2 (u2 (xI X') 59 c (mS s + 1)) 67 c _) 68 c _ 68 c = mP s - _
        rw [u2_at, if_pos rfl]; try rfl
      · show 0 < mB s * tkD f k q te (mW s * rd.toInt64) (p.toInt * rd.toInt)
        exact Int.mul_pos mQ (by omega)
      · show xI X' 73 c = nI p'
        rw [h73]; unfold stf; rw [if_pos rfl]
      · show fN' (cOv c X') (cUn c X') p' * (mB s * tkD f k q te (mW s * rd.toInt64) (p.toInt * rd.toInt)) = ((xI X' 72 c).toInt * (mB s * tkD f k q te (mW s * rd.toInt64) (p.toInt * rd.toInt)) + (mA s * tkD f k q te (mW s * rd.toInt64) (p.toInt * rd.toInt) + tkN f k te (p.toInt * rd.toInt) * mB s - (tkV f k q te rd p s).toInt * (mB s * tkD f k q te (mW s * rd.toInt64) (p.toInt * rd.toInt)))) * fD (cUn c X') p'
        rw [h72, stf_at, nI_toInt (by omega), ← ea, ← ed]
        exact hrf.2
      · show bnd (xI X' 72 c) 0 80
        rw [h72, stf_at]
        unfold bnd
        rw [nI_toInt (by omega)]; omega
      · intro i hi
        show ∃ j, j < 3 * n ∧ (cUn c X' i).toInt = dSet f te.toInt j
        rcases hun with ⟨u1, u2⟩ | ⟨u1, u2, u3⟩
        · rw [u2 i (by omega)]; exact mD i (by omega)
        · by_cases z : i < np
          · rw [(u2 i z).1]; exact mD i z
          · have z2 : i = np := by omega
            rw [z2, u3, ed]; exact dset
      · intro i j hij hj
        show ¬ cUn c X' i = cUn c X' j
        rcases hun with ⟨u1, u2⟩ | ⟨u1, u2, u3⟩
        · rw [u2 i (by omega), u2 j (by omega)]; exact mI i j hij (by omega)
        · by_cases z : j < np
          · rw [(u2 i (by omega)).1, (u2 j z).1]; exact mI i j hij z
          · have z2 : j = np := by omega
            rw [z2, u3]; exact (u2 i (by omega)).2
    refine e_X12_passes_204 ?_
    rw [ec]
    refine ⟨vc, vc, vc, vc, vc, vc, vc, fun c1 => e_X12_passes_253 ?_, fun c1 => e_X12_passes_259 ?_⟩
    · rw [ec]
      refine ⟨vc, e_X12_passes_259 ?_⟩
      rw [ec]
      refine ⟨vc, vc, vc, vc, ?_⟩
      refine kf (xI X' 68 c) ?_
      rw [i68] at c1 ⊢
      unfold tkM
      by_cases z : mP s < v
      · rw [if_pos z]
      · rw [if_neg z]
        have z1 := Int32.le_iff_toInt_le.mp c1
        have z2 : ¬ (mP s).toInt < v.toInt := fun y => z (Int32.lt_iff_toInt_lt.mpr y)
        exact Int32.toInt_inj.mp (by omega)
    · rw [ec]
      refine ⟨vc, vc, vc, vc, ?_⟩
      refine kf v ?_
      rw [i68] at c1
      unfold tkM
      have z : ¬ mP s < v := fun y => c1 (Int32.le_iff_toInt_le.mpr (by have := Int32.lt_iff_toInt_lt.mp y; omega))
      rw [if_neg z]
  have m5 := mulb n5.1 n5.2 (show 0 ≤ te.toInt by omega) hte'.2
  have p5 : ((f (15 * k + 5)).toInt64 * te.toInt64).toInt = (f (15 * k + 5)).toInt * te.toInt := by
    rw [n_mulL] <;> rw [n_i2l, n_i2l] <;> omega
  have k119 : ∀ (l7 : Int32) (j : Nat), j < 15 → f (15 * k + j) = tkLn f k q te (mW s * rd.toInt64) → r_X12_passes tb0 K KX 119 [some (vR (some 42)), some (vI (nI c)), some (vL p), none, some (vI (nI k)), some (vI (nI q)), some (vI (tkPr f k q bg (mS s))), some (vI l7), none, none, none, none, none, none, none] [vI (nI j), vI (nI k), vR (some 42)] (S, I, J, R, nn) 0 0 := by
    intro l7 j hj hL
    refine e_X12_passes_119 (s_num (by omega) hj (rI_in ⟨vc, s_num (j := 5) (by omega) (by decide) (rI_in ⟨vc, fun c1 => ?_, fun c1 => ?_⟩)⟩))
    · have c2 := (lg_cmp_le _ _).mp c1
      rw [e65, e66, x46 5 (by decide)] at c2
      have c2' := Int64.le_iff_toInt_le.mp c2
      rw [p5, hwp] at c2'
      have c3 : ¬ (f (15 * k + 5)).toInt * te.toInt < p.toInt * rd.toInt := by omega
      refine e_X12_passes_162 (e_X12_passes_163 ⟨fun _ => e_X12_passes_190 (s_num (j := 4) (by omega) (by decide) (rI_in ?_)), fun z => absurd rfl z⟩)
      rw [x46 4 (by decide)]
      have ed : ((f (15 * k + 4)).toInt64).toInt = tkD f k q te (mW s * rd.toInt64) (p.toInt * rd.toInt) := by unfold tkD; rw [if_neg c3, n_i2l]
      have e1 : (1 : Int64).toInt = 1 := by decide
      have ea : (1 : Int64).toInt = tkN f k te (p.toInt * rd.toInt) := by unfold tkN; rw [if_neg c3, e1]
      exact s_more hc m73 hp8 (fun _ => by omega) mg (by rw [e1]; decide) (by rw [ed]; exact ⟨dd1, dd2⟩) mM (fun X' v w p' q' h1 h2 h3 h4 h5 h6 h7 h8 h9 h10 => rI_in (k204 _ _ _ _ _ _ _ X' v w p' q' ea ed h1 h2 h3 h4 h5 h6 h7 h8 h9 h10))
    · have c2 : ¬ p * (xI (S, I, J, R, nn) 65 (nI c).toNatClampNeg).toInt64 ≤ (xI (S, I, J, R, nn) 46 (15 * k + 5)).toInt64 * (xI (S, I, J, R, nn) 66 (nI c).toNatClampNeg).toInt64 := fun z => c1 ((lg_cmp_le _ _).mpr z)
      rw [e65, e66, x46 5 (by decide)] at c2
      have c3 : (f (15 * k + 5)).toInt * te.toInt < p.toInt * rd.toInt := by
        rcases Int.lt_or_le ((f (15 * k + 5)).toInt * te.toInt) (p.toInt * rd.toInt) with g | g
        · exact g
        · exact absurd (Int64.le_iff_toInt_le.mpr (by rw [p5, hwp]; exact g)) c2
      refine e_X12_passes_163 ⟨fun z => absurd z (by decide), fun _ => ⟨vc, ?_⟩⟩
      rw [e65, e66, x46 j hj, hL]
      have lb := tkLn_bd (q := q) (te := te) (w := mW s * rd.toInt64) hb hk
      have lm := mulb (show 0 ≤ (tkLn f k q te (mW s * rd.toInt64)).toInt by omega) lb.2 (show 0 ≤ te.toInt by omega) hte'.2
      have ed : ((tkLn f k q te (mW s * rd.toInt64)).toInt64 * te.toInt64).toInt = tkD f k q te (mW s * rd.toInt64) (p.toInt * rd.toInt) := by
        unfold tkD
        rw [if_pos c3, n_mulL] <;> rw [n_i2l, n_i2l] <;> omega
      have ea : (p * rd.toInt64).toInt = tkN f k te (p.toInt * rd.toInt) := by unfold tkN; rw [if_pos c3, hwp]
      exact s_more hc m73 hp8 (fun _ => by omega) mg (by rw [hwp]; exact ⟨hw0, hw1⟩) (by rw [ed]; exact ⟨dd1, dd2⟩) mM (fun X' v w p' q' h1 h2 h3 h4 h5 h6 h7 h8 h9 h10 => rI_in (k204 _ _ _ _ _ _ _ X' v w p' q' ea ed h1 h2 h3 h4 h5 h6 h7 h8 h9 h10))
  have k103 : ∀ s0 : Int32, (s0 = 0 ∧ f (15 * k + 3) = tkLn f k q te (mW s * rd.toInt64)) ∨ (s0 = 1 ∧ f (15 * k + 10) = tkLn f k q te (mW s * rd.toInt64)) → r_X12_passes tb0 K KX 103 [some (vR (some 42)), some (vI (nI c)), some (vL p), none, some (vI (nI k)), some (vI (nI q)), some (vI (tkPr f k q bg (mS s))), none, none, none, none, none, none, none, none] [vI s0] (S, I, J, R, nn) 0 0 := by
    intro s0 h
    rcases h with ⟨h, h2⟩ | ⟨h, h2⟩
    · subst h
      exact e_X12_passes_103 ⟨fun _ => e_X12_passes_118 (k119 0 3 (by decide) h2), fun z => absurd rfl z⟩
    · subst h
      exact e_X12_passes_103 ⟨fun z => absurd z (by decide), fun _ => k119 1 10 (by decide) h2⟩
  have k63 : q = 2 ∨ q = 3 → r_X12_passes tb0 K KX 63 [some (vR (some 42)), some (vI (nI c)), some (vL p), none, some (vI (nI k)), some (vI (nI q)), some (vI (tkPr f k q bg (mS s))), none, none, none, none, none, none, none, none] [] (S, I, J, R, nn) 0 0 := by
    intro hq2
    refine e_X12_passes_63 ⟨vc, vc, s_num (j := 9) (by omega) (by decide) (rI_in ⟨vc, fun c1 => e_X12_passes_102 (k103 0 (Or.inl ⟨rfl, ?_⟩)), fun c1 => k103 1 (Or.inr ⟨rfl, ?_⟩)⟩)⟩
    · have c2 := (lg_cmp_le _ _).mp c1
      rw [e65, e66, e74, x46 9 (by decide)] at c2
      unfold tkLn
      rw [if_neg (fun z => z.2 c2)]
    · have c2 : ¬ (xJ (S, I, J, R, nn) 74 (nI c).toNatClampNeg) * (xI (S, I, J, R, nn) 65 (nI c).toNatClampNeg).toInt64 ≤ (xI (S, I, J, R, nn) 46 (15 * k + 9)).toInt64 * (xI (S, I, J, R, nn) 66 (nI c).toNatClampNeg).toInt64 := fun z => c1 ((lg_cmp_le _ _).mpr z)
      rw [e65, e66, e74, x46 9 (by decide)] at c2
      unfold tkLn
      rw [if_pos ⟨hq2, c2⟩]
  have q2 : nI q = nI 2 ↔ q = 2 := nI_eq (by omega) (by decide)
  have q3 : nI q = nI 3 ↔ q = 3 := nI_eq (by omega) (by decide)
  have q1 : nI q = nI 1 ↔ q = 1 := nI_eq (by omega) (by decide)
  have k46 : ∀ j, j < 15 → f (15 * k + j) = tkPr f k q bg (mS s) → r_X12_passes tb0 K KX 46 [some (vR (some 42)), some (vI (nI c)), some (vL p), none, some (vI (nI k)), some (vI (nI q)), none, none, none, none, none, none, none, none, none] [vI (nI j), vI (nI k), vR (some 42)] (S, I, J, R, nn) 0 0 := by
    intro j hj hP
    refine e_X12_passes_46 (s_num (by omega) hj (rI_in ?_))
    rw [x46 j hj, hP]
    refine ⟨fun z => k63 (Or.inl (q2.mp z)), fun z => ⟨fun z3 => e_X12_passes_102 (k103 0 (Or.inl ⟨rfl, ?_⟩)), fun z3 => k63 (Or.inr (q3.mp z3))⟩⟩
    unfold tkLn
    rw [if_neg (fun y => by rcases y.1 with y | y; exact z (q2.mpr y); exact z3 (q3.mpr y))]
  refine i_X12_passes ?_
  rw [e64, ek, x45]
  refine ⟨vc, vp_in_nI (by omega) (by decide), fun z => e_X12_passes_45 (k46 2 (by decide) ?_), fun z => i_X12_minuteOf ⟨vc, vc, by decide, by decide, rI_in ?_⟩⟩
  · unfold tkPr
    rw [if_neg (fun y => z (q1.mpr y.1))]
  · rw [e62, e59]
    refine s_mnight (by omega) (fun y => rI_in ⟨fun z => absurd z (by decide), fun _ => k46 8 (by decide) ?_⟩) (fun y => rI_in ⟨fun _ => e_X12_passes_45 (k46 2 (by decide) ?_), fun z => absurd rfl z⟩)
    · rw [x46 6 (by decide), x46 7 (by decide)] at y
      unfold tkPr
      rw [if_pos ⟨q1.mp z, y⟩]
    · rw [x46 6 (by decide), x46 7 (by decide)] at y
      unfold tkPr
      rw [if_neg (fun w => y w.2)]
end Psm
