/-! again: one more run of a hire that has ended -/
section Ops
variable {L : Nat} {xs : Nat → Int32} {t n s h l : Nat} {X : AX} {K : Option AV → AX → Prop} {KX : String → AX → Prop}
variable {Y Z X1 : AX} {k q d c τ : Nat} {f : Nat → Int32}
/-- a meter, its tariff, its extras, its hands, the tariffs that have been at hand -/
def AgS : Type := MtS × Nat × Int32 × Nat × (Nat → Bool)
def gM (a : AgS) : MtS := a.1
def gK (a : AgS) : Nat := a.2.1
def gE (a : AgS) : Int32 := a.2.2.1
def gHn (a : AgS) : Nat := a.2.2.2.1
def gC (a : AgS) : Nat → Bool := a.2.2.2.2
def mkG (m : MtS) (k : Nat) (e : Int32) (h : Nat) (c : Nat → Bool) : AgS := (m, k, e, h, c)
def addF (s : MtS) (e : Int64) : MtS := mkS (mS s) (mW s) (mFr s + e) (mT s) (mP s) (mA s) (mB s)
def kdX (X : AX) (k : Nat) : Nat := (xI X 45 k).toNatClampNeg
def xtX (X : AX) (k : Nat) (a : AgS) : Int32 := xtr (kdX X k) (gC a k) (xI X 46 (15 * k + 14))
def ptX (X : AX) (k : Nat) (a : AgS) : AgS := mkG (addF (gM a) (xtX X k a).toInt64) k (gE a + xtX X k a) (gHn a + 1) (fun j => gC a j || decide (j = k))
def htX (X : AX) (i : Nat) : Nat := (xI X 84 (50 * 0 + i)).toNatClampNeg
noncomputable def tkX (X : AX) (τ : Nat) (a : AgS) : AgS := mkG (tkG (xI X 46) (gK a) (kdX X (gK a)) (xI X 15 2) (xI X 4 1) (xI X 4 0) (pzI (plsF (xI X 7) (xI X 6) τ)) (gM a)) (gK a) (gE a) (gHn a) (gC a)
def innX (X : AX) (τ : Nat) : Nat → AgS → AgS
  | 0, a => a
  | r + 1, a => if xI X 21 (gHn a) = nI τ then innX X τ r (ptX X (htX X (gHn a)) a) else a
noncomputable def stX (X : AX) (H ran τ : Nat) (a : AgS) : AgS := if τ < ran then tkX X τ (innX X τ (H - gHn a) a) else innX X τ (H - gHn a) a
noncomputable def outX (X : AX) (H ran : Nat) : Nat → Nat → AgS → AgS
  | 0, _, a => a
  | r + 1, τ, a => outX X H ran r (τ + 1) (stX X H ran τ a)
/-- what the run reads -/
def EnvG (X : AX) (n H ran : Nat) : Prop := rlT n X ∧ rlR X ∧ rlW X ∧ mHand n 15 0 X ∧ xI X 15 12 = nI H ∧ H ≤ 50 ∧ xI X 15 4 = nI ran ∧ ran ≤ 3840
def invG (X : AX) (n H : Nat) (a : AgS) : Prop := gHn a ≤ H ∧ nI (gK a) = hTo 0 X (gHn a) ∧ gK a < n ∧ 0 ≤ (gE a).toInt ∧ (gE a).toInt ≤ 10000 * ((gHn a : Int) + 1)
theorem tar_of {n H ran : Nat} (hE : EnvG X n H ran) (hk : k < n) : ∃ d, rlT1 X k d ∧ kdX X k < 5 ∧ xI X 45 k = nI (kdX X k) ∧ xS X d = (kcl (kdX X k), 1) := by
  obtain ⟨d, hd⟩ := hE.1.2.2.2 k hk
  obtain ⟨q, q1, q2, q3⟩ := hd.2.2.2.1
  have e : kdX X k = q := by unfold kdX; rw [q2]; exact nI_clamp (by omega)
  exact ⟨d, hd, by omega, by rw [e]; exact q2, by rw [e]; exact q3⟩
theorem xt_bd {n H ran : Nat} {a : AgS} (hE : EnvG X n H ran) (hk : k < n) : 0 ≤ (xtX X k a).toInt ∧ (xtX X k a).toInt ≤ 10000 := by
  have e14 : (aLst 14).toInt = 0 ∧ (aMst 14).toInt = 10000 := by decide
  have b := num_of hE.1 k hk 14 (by decide)
  unfold bnd at b
  have e0 : (0 : Int32).toInt = 0 := by decide
  unfold xtX xtr eOf
  by_cases z : gC a k = true
  · rw [if_pos z]; omega
  · rw [if_neg z]
    by_cases z2 : kdX X k = 4
    · rw [if_pos z2]; omega
    · rw [if_neg z2]; omega
theorem ht_lt {n H ran : Nat} (hE : EnvG X n H ran) {i : Nat} (hi : i < H) : htX X i < n ∧ nI (htX X i) = hTo 0 X (i + 1) ∧ ¬ hTo 0 X (i + 1) = hTo 0 X i ∧ xR X 22 i = xR X 8 (htX X i) ∧ xI X 83 (50 * 0 + i) = xI X 21 i := by
  obtain ⟨hT, hR, hW, ⟨m1, m2⟩, h12, hH, -⟩ := hE
  obtain ⟨a1, a2, a3, a4⟩ := m1 i (by rw [h12, nI_clamp (by omega)]; exact hi)
  unfold bnd at a2
  have cl := clp a2.1
  exact ⟨by unfold htX; omega, (nI_ofI a2.1).symm, a4, a3, a1⟩
theorem inv_pt {n H ran : Nat} {a : AgS} (hE : EnvG X n H ran) (h : invG X n H a) (hlt : gHn a < H) : invG X n H (ptX X (htX X (gHn a)) a) ∧ (gE a + xtX X (htX X (gHn a)) a).toInt64 = (gE a).toInt64 + (xtX X (htX X (gHn a)) a).toInt64 := by
  obtain ⟨i1, i2, i3, i4, i5⟩ := h
  obtain ⟨k1, k2, k3, k4, k5⟩ := ht_lt hE hlt
  obtain ⟨b1, b2⟩ := xt_bd (a := a) hE k1
  have hH := hE.2.2.2.2.2.1
  have s : (gE a + xtX X (htX X (gHn a)) a).toInt = (gE a).toInt + (xtX X (htX X (gHn a)) a).toInt := by rw [n_add] <;> omega
  refine ⟨⟨?_, k2, k1, ?_, ?_⟩, i64_add (by omega) (by omega)⟩
  · show gHn a + 1 ≤ H
    omega
  · show 0 ≤ (gE a + xtX X (htX X (gHn a)) a).toInt
    omega
  · show (gE a + xtX X (htX X (gHn a)) a).toInt ≤ 10000 * (((gHn a + 1 : Nat) : Int) + 1)
    omega
theorem inv_inn {n H ran : Nat} (hE : EnvG X n H ran) : ∀ r a, gHn a + r = H → invG X n H a → invG X n H (innX X τ r a) ∧ mS (gM (innX X τ r a)) = mS (gM a)
  | 0, a, _, h => ⟨h, rfl⟩
  | r + 1, a, hr, h => by
    unfold innX
    by_cases z : xI X 21 (gHn a) = nI τ
    · rw [if_pos z]
      obtain ⟨u, v⟩ := inv_inn hE r (ptX X (htX X (gHn a)) a) (by show gHn a + 1 + r = H; omega) (inv_pt hE h (by omega)).1
      exact ⟨u, v⟩
    · rw [if_neg z]; exact ⟨h, rfl⟩
/-- the class's side -/
def cAG (X : AX) (n : Nat) (a : AgS) (X1 : AX) : Prop := (∃ d, rlT1 X (gK a) d ∧ cRep 29 d n (xI X 46) (xI X 15 2) (xI X 4 1) (xI X 4 0) (gM a) X1) ∧ xI X1 29 9 = gE a ∧ xI X1 29 12 = nI (gHn a) ∧ ∀ j, j < 12 → bitc (xI X1 29 11) j = gC a j
theorem c_inn {n H ran : Nat} (hE : EnvG X n H ran) : ∀ r a X1, gHn a + r = H → CmF 29 X X1 → cAG X n a X1 → invG X n H a → (∀ X', CmF 29 X X' → cAG X n (innX X τ r a) X' → r_X4_repeat tb0 K KX 76 [some (vR (some 14)), some (vR (some 29)), some (vR (some 5)), some (vI (xI X 4 0)), some (vI (xI X 4 1)), some (vI (nI (gHn (innX X τ r a)))), some (vI (nI τ))] [] X' 0 0) → r_X4_repeat tb0 K KX 35 [some (vR (some 14)), some (vR (some 29)), some (vR (some 5)), some (vI (xI X 4 0)), some (vI (xI X 4 1)), some (vI (nI (gHn a))), some (vI (nI τ))] [] X1 0 0
  | 0, a, X1, hr, hF, hc, hi, hK => by
    have h12 : xI X1 15 12 = nI H := by rw [hF.2.2.2.1 15 (by decide)]; exact hE.2.2.2.2.1
    have e : gHn a = H := by omega
    refine e_X4_repeat_35_m29 ⟨fun _ => hK X1 hF hc, fun z => absurd ?_ z⟩
    rw [h12, e]
    exact Int32.le_iff_toInt_le.mpr (Int.le_refl _)
  | r + 1, a, X1, hr, hF, hc, hi, hK => by
    have h12 : xI X1 15 12 = nI H := by rw [hF.2.2.2.1 15 (by decide)]; exact hE.2.2.2.2.1
    have hH := hE.2.2.2.2.2.1
    have eh : (nI (gHn a)).toNatClampNeg = gHn a := nI_clamp (by omega)
    have vh : vp_in (nI (gHn a)) 50 := vp_in_nI (by omega) (by decide)
    have x21 : xI X1 21 (gHn a) = xI X 21 (gHn a) := by rw [hF.2.2.2.1 21 (by decide)]
    refine e_X4_repeat_35_m29 ⟨fun z => ?_, fun _ => ?_⟩
    · rw [h12] at z
      have := Int32.le_iff_toInt_le.mp z
      rw [nI_toInt (by omega), nI_toInt (by omega)] at this
      omega
    · rw [eh]
      refine ⟨vh, fun z => ?_, fun z => ⟨vh, ?_⟩⟩
      · rw [x21] at z
        have e : innX X τ (r + 1) a = a := by unfold innX; rw [if_neg z]
        rw [e] at hK
        exact hK X1 hF hc
      · rw [x21] at z
        obtain ⟨k1, k2, k3, k4, k5⟩ := ht_lt hE (i := gHn a) (by omega)
        obtain ⟨d, hd, q5, h45, hsd⟩ := tar_of hE k1
        obtain ⟨t1, t2, t3, -, t5, t6, t7⟩ := id hd
        have e : innX X τ (r + 1) a = innX X τ r (ptX X (htX X (gHn a)) a) := by
          show (if xI X 21 (gHn a) = nI τ then innX X τ r (ptX X (htX X (gHn a)) a) else a) = _
          rw [if_pos z]
        rw [e] at hK
        rw [show xR X1 22 (gHn a) = some d by rw [hF.2.2.1 22 (by decide), k4]; exact t1]
        have hn12 := hE.1.2.2.1
        obtain ⟨⟨d0, hd0, hc0⟩, c9, c12, c11⟩ := hc
        have p4 := hF.2.2.2.1
        refine i_X5_takeByHand_m29 (s_takeP_29 (S := xS X1) (F := u2 (xI X1) 29 12 (xI X1 29 12 + 1)) (J := xJ X1) (R := xR X1) (nn := xN X1) (q := kdX X (htX X (gHn a))) (k := htX X (gHn a)) t2 (by rw [hF.1]; exact hsd) (by rw [hF.1]; exact t5) q5 (by omega) ?_ (fun X' hP => rV_in (rV_in ?_)))
        · rw [u2_ne _ _ _ (by omega), p4 d (by omega)]; exact t6
        · rw [nI_1]
          have ex : xtr (kdX X (htX X (gHn a))) (bitc (u2 (xI X1) 29 12 (xI X1 29 12 + 1) 29 11) (htX X (gHn a))) (u2 (xI X1) 29 12 (xI X1 29 12 + 1) (d + 1) 14) = xtX X (htX X (gHn a)) a := by
            unfold xtX
            rw [u2_ne _ _ _ (show d + 1 ≠ 29 by omega), p4 (d + 1) (by omega), (t7 14 (by decide)).1, u2_at, if_neg (by decide), c11 _ (by omega)]
          rw [ex] at hP
          obtain ⟨p1, p2, p3, p4', p5, p6, p7, p8, p9, p10⟩ := id hP
          have hF' : CmF 29 X X' := hF.trans (CmF.trans (Y := (xS X1, u2 (xI X1) 29 12 (xI X1 29 12 + 1), xJ X1, xR X1, xN X1)) ⟨rfl, rfl, fun _ _ => rfl, fun i hi => u2_ne _ _ _ (by omega), fun _ _ => rfl⟩ (CmF.of_take hP))
          refine c_inn hE r (ptX X (htX X (gHn a)) a) X' (by show gHn a + 1 + r = H; omega) hF' ⟨⟨d, hd, ?_⟩, ?_, ?_, fun j hj => ?_⟩ (inv_pt hE hi (by omega)).1 hK
          · obtain ⟨r2, r3, r4, r5, r6, r7, r8, rt, rQ, T, B, rP, rB, rT⟩ := hc0
            refine ⟨?_, ?_, ?_, ?_, ?_, ?_, ?_, ?_, rQ, T, B, Pt_tr ?_ (fun j _ => ⟨?_, ?_⟩) rP, rB, rT⟩
            · rw [p5 2 (by decide) (by decide)]; exact r2
            · rw [p5 3 (by decide) (by decide)]; exact r3
            · rw [p5 4 (by decide) (by decide)]; exact r4
            · rw [p9 5 (by decide)]; exact r5
            · rw [p10]
              show xJ X1 29 6 + _ = mFr (gM a) + _
              rw [r6]
            · rw [p5 7 (by decide) (by decide)]; exact r7
            · rw [p5 8 (by decide) (by decide)]; exact r8
            · rw [p3, u2_at, if_pos rfl]
            · rw [p4' 30 (by decide)]; try rfl
            · rw [p4' 31 (by decide)]; try rfl
            · rw [p4' 32 (by decide)]; try rfl
          · rw [p6]
            show xI X1 29 9 + _ = gE a + _
            rw [c9]
          · rw [p5 12 (by decide) (by decide)]
            show xI X1 29 12 + 1 = nI (gHn a + 1)
            rw [c12, nI_1]
          · rw [p7 j]
            show (bitc (xI X1 29 11) j || decide (j = htX X (gHn a))) = (gC a j || decide (j = htX X (gHn a)))
            rw [c11 j hj]
theorem st_inv {n H ran : Nat} {a : AgS} (hE : EnvG X n H ran) (hi : invG X n H a) (hs : mS (gM a) = nI (min τ ran)) : invG X n H (stX X H ran τ a) ∧ mS (gM (stX X H ran τ a)) = nI (min (τ + 1) ran) ∧ gHn (stX X H ran τ a) = gHn (innX X τ (H - gHn a) a) := by
  obtain ⟨u, v⟩ := inv_inn (τ := τ) hE (H - gHn a) a (by have := hi.1; omega) hi
  unfold stX
  by_cases z : τ < ran
  · rw [if_pos z]
    refine ⟨u, ?_, rfl⟩
    show mS (gM (innX X τ (H - gHn a) a)) + 1 = _
    rw [v, hs, nI_1]
    congr 1; omega
  · rw [if_neg z]
    refine ⟨u, ?_, rfl⟩
    rw [v, hs]
    congr 1; omega
theorem c_out {n H ran : Nat} (hE : EnvG X n H ran) : ∀ r τ a X1, τ + r = ran + 1 → CmF 29 X X1 → cAG X n a X1 → invG X n H a → mS (gM a) = nI (min τ ran) → (∀ X' l5 l6, CmF 29 X X' → cAG X n (outX X H ran r τ a) X' → invG X n H (outX X H ran r τ a) → r_X4_repeat tb0 K KX 111 [some (vR (some 14)), some (vR (some 29)), some (vR (some 5)), some (vI (xI X 4 0)), some (vI (xI X 4 1)), some (vI l5), some (vI l6)] [] X' 0 0) → r_X4_repeat tb0 K KX 23 [some (vR (some 14)), some (vR (some 29)), some (vR (some 5)), some (vI (xI X 4 0)), some (vI (xI X 4 1)), some (vI (nI (gHn a))), some (vI (nI τ))] [] X1 0 0
  | 0, τ, a, X1, hr, hF, hc, hi, hs, hK => by
    have hran := hE.2.2.2.2.2.2.2
    have h4 : xI X1 15 4 = nI ran := by rw [hF.2.2.2.1 15 (by decide)]; exact hE.2.2.2.2.2.2.1
    refine e_X4_repeat_23_m29 ⟨fun _ => hK X1 _ _ hF hc hi, fun z => absurd ?_ z⟩
    rw [h4]
    refine Int32.lt_iff_toInt_lt.mpr ?_
    rw [nI_toInt (by omega), nI_toInt (by omega)]; omega
  | r + 1, τ, a, X1, hr, hF, hc, hi, hs, hK => by
    have hran := hE.2.2.2.2.2.2.2
    have h4 : ∀ X', CmF 29 X X' → xI X' 15 4 = nI ran := fun X' hF => by rw [hF.2.2.2.1 15 (by decide)]; exact hE.2.2.2.2.2.2.1
    have hn12 := hE.1.2.2.1
    obtain ⟨s1, s2, s3⟩ := st_inv (τ := τ) hE hi hs
    obtain ⟨u, v⟩ := inv_inn (τ := τ) hE (H - gHn a) a (by have := hi.1; omega) hi
    refine e_X4_repeat_23_m29 ⟨fun z => ?_, fun _ => c_inn hE (H - gHn a) a X1 (by have := hi.1; omega) hF hc hi (fun X' hF' hc' => ?_)⟩
    · rw [h4 X1 hF] at z
      have := Int32.lt_iff_toInt_lt.mp z
      rw [nI_toInt (by omega), nI_toInt (by omega)] at this
      omega
    · have nx : ∀ X'', CmF 29 X X'' → cAG X n (stX X H ran τ a) X'' → r_X4_repeat tb0 K KX 105 [some (vR (some 14)), some (vR (some 29)), some (vR (some 5)), some (vI (xI X 4 0)), some (vI (xI X 4 1)), some (vI (nI (gHn (innX X τ (H - gHn a) a)))), some (vI (nI τ))] [] X'' 0 0 := fun X'' hF'' hc'' => by
        refine e_X4_repeat_105_m29 ?_
        rw [nI_1, ← s3]
        exact c_out hE r (τ + 1) (stX X H ran τ a) X'' (by omega) hF'' hc'' s1 s2 hK
      refine e_X4_repeat_76_m29 ⟨fun z => nx X' hF' ?_, fun z => ?_⟩
      · rw [h4 X' hF'] at z
        have := Int32.le_iff_toInt_le.mp z
        rw [nI_toInt (by omega), nI_toInt (by omega)] at this
        unfold stX
        rw [if_neg (by omega)]; exact hc'
      · rw [h4 X' hF'] at z
        have τl : τ < ran := by
          rcases Nat.lt_or_ge τ ran with g | g
          · exact g
          · refine absurd (Int32.le_iff_toInt_le.mpr ?_) z
            rw [nI_toInt (by omega), nI_toInt (by omega)]; omega
        obtain ⟨⟨d, hd, hc0⟩, c9, c12, c11⟩ := hc'
        obtain ⟨d', hd', q5, h45, hsd⟩ := tar_of hE u.2.2.1
        have dd : d' = d := Option.some.inj (hd'.1.symm.trans hd.1)
        subst dd
        obtain ⟨t1, t2, t3, -, t5, t6, t7⟩ := id hd
        have p4 := hF'.2.2.2.1
        have i7 : xI X' 7 = xI X 7 := p4 7 (by decide)
        have i6 : xI X' 6 = xI X 6 := p4 6 (by decide)
        have hrow := rows_of hE.2.1
        obtain ⟨u1', u2'⟩ := plF_bd hrow (show τ < 3840 by omega)
        have hW := hE.2.2.1
        have hrd : bnd (xI X 4 0) 1 10000 := by
          have := hW.2.1
          unfold bnd at this ⊢
          omega
        refine s_ofSecond (by rw [i7, i6]; exact hrow) (by omega) (rI_in ?_)
        rw [i7, i6]
        refine s_tickX_29 (k := gK (innX X τ (H - gHn a) a)) (q := kdX X (gK (innX X τ (H - gHn a) a))) (f := xI X 46) (n := n) (p := pzI (plsF (xI X 7) (xI X 6) τ)) (rd := xI X 4 0) (te := xI X 4 1) (bg := xI X 15 2) t2 (by rw [hF'.1]; exact hsd) (by rw [hF'.1]; exact t5) q5 u.2.2.1 hn12 (fun j hj => by rw [p4 (d' + 1) (by omega)]; exact (t7 j hj).1) (num_of hE.1) hW.2.2.2 (pz_ok u1' u2' hrd).1 hc0 (fun X'' hT hc'' => rI_in (nx X'' (hF'.trans (CmF.of_tick hT)) ?_))
        unfold stX
        rw [if_pos τl]
        exact ⟨⟨d', hd, hc''⟩, (hT.2.2.2.2.1 9 (by decide) (by decide) (by decide)).trans c9, (hT.2.2.2.2.1 12 (by decide) (by decide) (by decide)).trans c12, fun j hj => by rw [hT.2.2.2.2.1 11 (by decide) (by decide) (by decide)]; exact c11 j hj⟩
/-- the reference's side -/
def mAG (X : AX) (n : Nat) (z : Int32) (a : AgS) (X1 : AX) : Prop := mRep 3 (gK a) n (xI X 46) (xI X 15 2) (xI X 4 1) (xI X 4 0) (gM a) X1 ∧ xJ X1 76 3 = (gE a).toInt64 ∧ xI X1 70 3 = nI (gHn a) ∧ (∀ j, j < n → xI X 45 j = 4 → xI X1 81 (12 * 3 + j) = if gC a j = true then 1 else 0) ∧ (∀ j, j < 12 → bl (xI X1 81 (12 * 3 + j))) ∧ xI X1 60 3 = z ∧ ∃ nd dk st, nd ≤ (mS (gM a)).toNatClampNeg ∧ mDk 3 nd dk st X1
/-- rows that the reference reads -/
def EnvR (X : AX) (H ran : Nat) (z : Int32) (X1 : AX) : Prop := xI X1 45 = xI X 45 ∧ xI X1 46 = xI X 46 ∧ xI X1 43 = xI X 43 ∧ xI X1 44 = xI X 44 ∧ xI X1 59 2 = nI ran ∧ xI X1 70 2 = nI H ∧ (∀ i, i < 50 → xI X1 83 (50 * 2 + i) = xI X 83 (50 * 0 + i) ∧ xI X1 84 (50 * 2 + i) = xI X 84 (50 * 0 + i)) ∧ xJ X1 77 2 = xJ X 77 0 ∧ xI X1 61 2 = z
theorem EnvR.tr {H ran : Nat} {z : Int32} (h : EnvR X H ran z X1) (hP : AmF 3 X1 Y) : EnvR X H ran z Y := by
  obtain ⟨h1, h2, h3, h4, h5, h6, h7, h8, h9⟩ := h
  obtain ⟨b1, b2, b3, b4, b5, b6, b7, b8, b9, b10, b11, b12⟩ := hP
  exact ⟨(b4 45 (by decide) (by decide)).trans h1, (b4 46 (by decide) (by decide)).trans h2, (b4 43 (by decide) (by decide)).trans h3, (b4 44 (by decide) (by decide)).trans h4, (b6 59 2 (by decide) (by decide) (by decide)).trans h5, (b6 70 2 (by decide) (by decide) (by decide)).trans h6, fun i hi => ⟨(b9 (50 * 2 + i) (by omega)).1.trans (h7 i hi).1, (b9 (50 * 2 + i) (by omega)).2.trans (h7 i hi).2⟩, (b11 77 2 (by decide) (by decide)).trans h8, (b6 61 2 (by decide) (by decide) (by decide)).trans h9⟩
theorem xtr_ag {b : Bool} (hq : q < 5) (h45 : xI X1 45 k = nI q) (h81 : xI X1 45 k = 4 → xI X1 81 (12 * c + k) = if b = true then 1 else 0) : xtr' (xI X1) c k = xtr q b (xI X1 46 (15 * k + 14)) := by
  have q4 : nI q = nI 4 ↔ q = 4 := nI_eq (by omega) (by decide)
  have e01 : ¬ (1 : Int32) = 0 := by decide
  unfold xtr' xtr eOf
  by_cases z : q = 4
  · have h4 : xI X1 45 k = 4 := h45.trans (q4.mpr z)
    rw [h81 h4, if_pos z]
    by_cases y : b = true
    · rw [if_pos y, if_pos y, if_neg (fun w => e01 w.2)]
    · rw [if_neg y, if_neg y, if_pos ⟨h4, rfl⟩]
  · have h4 : ¬ xI X1 45 k = 4 := fun y => z (q4.mp (h45.symm.trans y))
    rw [if_neg (fun w => h4 w.1), if_neg z]
    by_cases y : b = true
    · rw [if_pos y]
    · rw [if_neg y]
theorem m_inn {n H ran : Nat} {z z' : Int32} (hE : EnvG X n H ran) : ∀ r a X1, gHn a + r = H → AmF 3 Z X1 → EnvR X H ran z' X1 → mAG X n z a X1 → invG X n H a → (∀ X', AmF 3 Z X' → EnvR X H ran z' X' → mAG X n z (innX X τ r a) X' → r_X12_again tb0 K KX 126 [some (vR (some 42)), some (vI (nI (gHn (innX X τ r a)))), some (vI (nI τ))] [] X' 0 0) → r_X12_again tb0 K KX 83 [some (vR (some 42)), some (vI (nI (gHn a))), some (vI (nI τ))] [] X1 0 0
  | 0, a, X1, hr, hF, hM, hc, hi, hK => by
    have e : gHn a = H := by omega
    refine e_X12_again_83 ⟨by unfold vp_in; decide, fun _ => hK X1 hF hM hc, fun y => absurd ?_ y⟩
    rw [show xI X1 70 (Int32.toNatClampNeg 2) = nI H from hM.2.2.2.2.2.1, e]
    exact Int32.le_iff_toInt_le.mpr (Int.le_refl _)
  | r + 1, a, X1, hr, hF, hM, hc, hi, hK => by
    have hH := hE.2.2.2.2.2.1
    have hn12 := hE.1.2.2.1
    obtain ⟨k1, k2, k3, k4, k5⟩ := ht_lt hE (i := gHn a) (by omega)
    obtain ⟨d, hd, q5, h45, hsd⟩ := tar_of hE k1
    have e100 : (100 : Int32).toInt = 100 := by decide
    have ei : ((100 : Int32) + nI (gHn a)).toInt = ((50 * 2 + gHn a : Nat) : Int) := by
      rw [n_add] <;> rw [e100, nI_toInt (by omega)] <;> omega
    have ecl := clp (x := (100 : Int32) + nI (gHn a)) (by omega)
    have ecl' : ((100 : Int32) + nI (gHn a)).toNatClampNeg = 50 * 2 + gHn a := by omega
    have vi : vp_in ((100 : Int32) + nI (gHn a)) 250 := vp_in_iff.mpr ⟨by omega, by omega⟩
    obtain ⟨y83, y84⟩ := hM.2.2.2.2.2.2.1 (gHn a) (by omega)
    refine e_X12_again_83 ⟨by unfold vp_in; decide, fun y => ?_, fun _ => ?_⟩
    · rw [show xI X1 70 (Int32.toNatClampNeg 2) = nI H from hM.2.2.2.2.2.1] at y
      have := Int32.le_iff_toInt_le.mp y
      rw [nI_toInt (by omega), nI_toInt (by omega)] at this
      omega
    · rw [ecl', y83, y84, k5]
      refine ⟨vi, fun y => ?_, fun y => ⟨vi, ?_⟩⟩
      · have e : innX X τ (r + 1) a = a := by unfold innX; rw [if_neg y]
        rw [e] at hK
        exact hK X1 hF hM hc
      · have e : innX X τ (r + 1) a = innX X τ r (ptX X (htX X (gHn a)) a) := by
          show (if xI X 21 (gHn a) = nI τ then innX X τ r (ptX X (htX X (gHn a)) a) else a) = _
          rw [if_pos y]
        rw [e] at hK
        obtain ⟨hm, c76, c70, c81, cbl, c60, nd, dk, st, hnd, hdk⟩ := hc
        have e84 : xI X 84 (50 * 0 + gHn a) = nI (htX X (gHn a)) := by
          rw [k2]; try rfl
        rw [e84]
        have q := s_puts (S := xS X1) (F := xI X1) (J := xJ X1) (R := xR X1) (nn := xN X1) (c := 3) (k := htX X (gHn a)) (hn := gHn a) (K := fun v2 X1 => rV v2 (r_X12_again tb0 K KX 83 [some (vR (some 42)), some (vI (nI (gHn a) + 1)), some (vI (nI τ))] [] X1 0 0)) (KX := KX) (by decide) (by omega) (by
          rw [hm.2.2.2.1, hi.2.1, k2]
          exact fun w => k3 w.symm) c70 (by omega) (cbl _ (by omega)) (fun X' hP => rV_in ?_)
        · exact q
        · rw [nI_1]
          have ex : xtr' (xI X1) 3 (htX X (gHn a)) = xtX X (htX X (gHn a)) a := by
            rw [xtr_ag (X1 := X1) (c := 3) (k := htX X (gHn a)) (b := gC a (htX X (gHn a))) q5 (by rw [hM.1]; exact h45) (fun w => c81 _ k1 (by rw [← hM.1]; exact w)), hM.2.1]
            rfl
          have hA := AmF.of_puts (c := 3) (show htX X (gHn a) < 12 by omega) (show gHn a < 50 by omega) hP
          obtain ⟨p1, p2, p3, p4, p5, p6, p7, p8, p9, p10, p11, p12, p13, p14, p15⟩ := id hP
          have p14' : xJ X' 75 3 = xJ X1 75 3 + (xtX X (htX X (gHn a)) a).toInt64 := by rw [← ex]; exact p14
          have p15' : xJ X' 76 3 = xJ X1 76 3 + (xtX X (htX X (gHn a)) a).toInt64 := by rw [← ex]; exact p15
          have p8' : xI X1 45 (htX X (gHn a)) = 4 → xI X' 81 (12 * 3 + htX X (gHn a)) = 1 := p8
          have p9' : ¬ xI X1 45 (htX X (gHn a)) = 4 → xI X' 81 (12 * 3 + htX X (gHn a)) = xI X1 81 (12 * 3 + htX X (gHn a)) := p9
          have p7' : ∀ j, j ≠ 12 * 3 + htX X (gHn a) → xI X' 81 j = xI X1 81 j := p7
          have p4' : ∀ i, i ≠ 64 → i ≠ 70 → i ≠ 81 → i ≠ 83 → i ≠ 84 → xI X' i = xI X1 i := p4
          refine m_inn hE r (ptX X (htX X (gHn a)) a) X' (by show gHn a + 1 + r = H; omega) (hF.trans hA) (hM.tr hA) ⟨?_, ?_, ?_, fun j hj h4 => ?_, fun j hj => ?_, ?_, nd, dk, st, hnd, ?_⟩ (inv_pt hE hi (by omega)).1 hK
          · obtain ⟨m62, m66, m65, m64, m59, m74, m75, m67, m68, mQ, np, hp8, m73, mg, mN, mM, mD, mI⟩ := hm
            have x85 : cOv 3 X' = cOv 3 X1 := by
              unfold cOv
              rw [show xJ X' 85 = xJ X1 85 from p12 85 (by decide) (by decide)]
            have x86 : cUn 3 X' = cUn 3 X1 := by
              unfold cUn
              rw [show xJ X' 86 = xJ X1 86 from p12 86 (by decide) (by decide)]
            refine ⟨?_, ?_, ?_, ?_, ?_, ?_, ?_, ?_, ?_, mQ, np, hp8, ?_, ?_, ?_, ?_, ?_, ?_⟩
            · rw [p4' 62 (by decide) (by decide) (by decide) (by decide) (by decide)]; exact m62
            · rw [p4' 66 (by decide) (by decide) (by decide) (by decide) (by decide)]; exact m66
            · rw [p4' 65 (by decide) (by decide) (by decide) (by decide) (by decide)]; exact m65
            · rw [p5, stf_at]; try rfl
            · rw [p4' 59 (by decide) (by decide) (by decide) (by decide) (by decide)]; exact m59
            · rw [show xJ X' 74 = xJ X1 74 from p12 74 (by decide) (by decide)]; exact m74
            · rw [p14', m75]; try rfl
            · rw [p4' 67 (by decide) (by decide) (by decide) (by decide) (by decide)]; exact m67
            · rw [p4' 68 (by decide) (by decide) (by decide) (by decide) (by decide)]; exact m68
            · rw [p4' 73 (by decide) (by decide) (by decide) (by decide) (by decide)]; exact m73
            · rw [x85, x86]; exact mg
            · rw [x85, x86, p4' 72 (by decide) (by decide) (by decide) (by decide) (by decide)]; exact mN
            · rw [p4' 72 (by decide) (by decide) (by decide) (by decide) (by decide)]; exact mM
            · rw [x86]; exact mD
            · rw [x86]; exact mI
          · rw [p15', c76]
            exact (inv_pt hE hi (by omega)).2.symm
          · rw [p6, stf_at]; try rfl
          · show xI X' 81 (12 * 3 + j) = if (gC a j || decide (j = htX X (gHn a))) = true then 1 else 0
            by_cases w : j = htX X (gHn a)
            · rw [w] at h4 ⊢
              rw [p8' (by rw [hM.1]; exact h4), if_pos (by simp)]
            · rw [p7' (12 * 3 + j) (by omega), decide_eq_false w, Bool.or_false]; exact c81 j hj h4
          · by_cases w : j = htX X (gHn a)
            · rw [w]
              by_cases w4 : xI X1 45 (htX X (gHn a)) = 4
              · rw [p8' w4]; exact Or.inr rfl
              · rw [p9' w4, ← w]; exact cbl j hj
            · rw [p7' (12 * 3 + j) (by omega)]; exact cbl j hj
          · rw [p4' 60 (by decide) (by decide) (by decide) (by decide) (by decide)]; exact c60
          · obtain ⟨d1, d2, d3⟩ := hdk
            exact ⟨by rw [p4' 69 (by decide) (by decide) (by decide) (by decide) (by decide)]; exact d1, fun j hj => by rw [p4' 82 (by decide) (by decide) (by decide) (by decide) (by decide)]; exact d2 j hj, by rw [p4' 78 (by decide) (by decide) (by decide) (by decide) (by decide)]; exact d3⟩
theorem m_out {n H ran : Nat} {z z' : Int32} (hE : EnvG X n H ran) : ∀ r τ a X1, τ + r = ran + 1 → AmF 3 Z X1 → EnvR X H ran z' X1 → mAG X n z a X1 → invG X n H a → mS (gM a) = nI (min τ ran) → (∀ X' l5 l6, AmF 3 Z X' → EnvR X H ran z' X' → mAG X n z (outX X H ran r τ a) X' → invG X n H (outX X H ran r τ a) → r_X12_again tb0 K KX 148 [some (vR (some 42)), some (vI l5), some (vI l6)] [] X' 0 0) → r_X12_again tb0 K KX 73 [some (vR (some 42)), some (vI (nI (gHn a))), some (vI (nI τ))] [] X1 0 0
  | 0, τ, a, X1, hr, hF, hM, hc, hi, hs, hK => by
    have hran := hE.2.2.2.2.2.2.2
    refine e_X12_again_73 ⟨by unfold vp_in; decide, fun _ => hK X1 _ _ hF hM hc hi, fun y => absurd ?_ y⟩
    rw [show xI X1 59 (Int32.toNatClampNeg 2) = nI ran from hM.2.2.2.2.1]
    refine Int32.lt_iff_toInt_lt.mpr ?_
    rw [nI_toInt (by omega), nI_toInt (by omega)]; omega
  | r + 1, τ, a, X1, hr, hF, hM, hc, hi, hs, hK => by
    have hran := hE.2.2.2.2.2.2.2
    have hn12 := hE.1.2.2.1
    obtain ⟨s1, s2, s3⟩ := st_inv (τ := τ) hE hi hs
    obtain ⟨u, v⟩ := inv_inn (τ := τ) hE (H - gHn a) a (by have := hi.1; omega) hi
    refine e_X12_again_73 ⟨by unfold vp_in; decide, fun y => ?_, fun _ => m_inn hE (H - gHn a) a X1 (by have := hi.1; omega) hF hM hc hi (fun X' hF' hM' hc' => ?_)⟩
    · rw [show xI X1 59 (Int32.toNatClampNeg 2) = nI ran from hM.2.2.2.2.1] at y
      have := Int32.lt_iff_toInt_lt.mp y
      rw [nI_toInt (by omega), nI_toInt (by omega)] at this
      omega
    · have nx : ∀ X'', AmF 3 Z X'' → EnvR X H ran z' X'' → mAG X n z (stX X H ran τ a) X'' → r_X12_again tb0 K KX 142 [some (vR (some 42)), some (vI (nI (gHn (innX X τ (H - gHn a) a)))), some (vI (nI τ))] [] X'' 0 0 := fun X'' hF'' hM'' hc'' => by
        refine e_X12_again_142 ?_
        rw [nI_1, ← s3]
        exact m_out hE r (τ + 1) (stX X H ran τ a) X'' (by omega) hF'' hM'' hc'' s1 s2 hK
      refine e_X12_again_126 ⟨by unfold vp_in; decide, fun y => nx X' hF' hM' ?_, fun y => ?_⟩
      · rw [show xI X' 59 (Int32.toNatClampNeg 2) = nI ran from hM'.2.2.2.2.1] at y
        have := Int32.le_iff_toInt_le.mp y
        rw [nI_toInt (by omega), nI_toInt (by omega)] at this
        unfold stX
        rw [if_neg (by omega)]; exact hc'
      · rw [show xI X' 59 (Int32.toNatClampNeg 2) = nI ran from hM'.2.2.2.2.1] at y
        have τl : τ < ran := by
          rcases Nat.lt_or_ge τ ran with g | g
          · exact g
          · refine absurd (Int32.le_iff_toInt_le.mpr ?_) y
            rw [nI_toInt (by omega), nI_toInt (by omega)]; omega
        obtain ⟨hm, c76, c70, c81, cbl, c60, nd, dk, st, hnd, hdk⟩ := hc'
        obtain ⟨d', hd', q5, h45, hsd⟩ := tar_of hE u.2.2.1
        have hW := hE.2.2.1
        have hrd : bnd (xI X 4 0) 1 10000 := by
          have := hW.2.1
          unfold bnd at this ⊢
          omega
        have ems : mS (gM (innX X τ (H - gHn a) a)) = nI τ := by rw [v, hs]; congr 1; omega
        rw [ems, nI_clamp (by omega)] at hnd
        have q := s_rowedX (X := X') (c := 3) (k := gK (innX X τ (H - gHn a) a)) (q := kdX X (gK (innX X τ (H - gHn a) a))) (f := xI X 46) (n := n) (rd := xI X 4 0) (te := xI X 4 1) (bg := xI X 15 2) (K := fun v2 X1 => rI v2 fun y3 => r_X12_again tb0 K KX 142 [some (vR (some 42)), some (vI (nI (gHn (innX X τ (H - gHn a) a)))), some (vI (nI τ))] [] X1 0 0) (KX := KX) (by decide) u.2.2.1 hn12 q5 (by rw [hM'.1]; exact h45) (fun j _ => by rw [hM'.2.1]) (num_of hE.1) hW.2.2.2 hrd (by rw [hM'.2.2.1, hM'.2.2.2.1]; exact rows_of' hE.2.1) ems (by omega) hnd hm hdk (fun X'' hP h1 h2 => rI_in (nx X'' (hF'.trans (AmF.of_rowed hP)) (hM'.tr (AmF.of_rowed hP)) ?_))
        · exact q
        · rw [hM'.2.2.1, hM'.2.2.2.1, plF_eq hE.2.1 (by omega)] at h1 h2
          obtain ⟨p1, p2, p3, p4, p5, p6, p7, p8, p9, p10⟩ := hP
          have e81 : xI X'' 81 = xI X' 81 := p4 81 (by decide) (by decide) (by decide) (by decide) (by decide) (by decide) (by decide) (by decide) (by decide)
          unfold stX
          rw [if_pos τl]
          refine ⟨h1, ?_, ?_, ?_, ?_, ?_, _, _, _, ?_, h2⟩
          · rw [p7 76 (by decide) (by decide)]; exact c76
          · rw [p4 70 (by decide) (by decide) (by decide) (by decide) (by decide) (by decide) (by decide) (by decide) (by decide)]; exact c70
          · rw [e81]; exact c81
          · rw [e81]; exact cbl
          · rw [p4 60 (by decide) (by decide) (by decide) (by decide) (by decide) (by decide) (by decide) (by decide) (by decide)]; exact c60
          · show ndS _ nd ≤ (mS (gM (innX X τ (H - gHn a) a)) + 1).toNatClampNeg
            rw [ems, nI_1, nI_clamp (by omega)]
            unfold ndS
            by_cases w : plsF (xI X 7) (xI X 6) τ = -1
            · rw [if_pos w]; omega
            · rw [if_neg w]; omega
end Ops
