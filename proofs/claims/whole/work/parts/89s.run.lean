/-! second and run -/
section Ops
variable {L : Nat} {xs : Nat → Int32} {t n s h l : Nat} {X : AX} {K : Option AV → AX → Prop} {KX : String → AX → Prop}
variable {f ln nu dk : Nat → Int32} {k q d nd c N τ : Nat} {bg te rd a0 st : Int32} {Y X1 : AX} {x : SecS} {w : MtS}
theorem s_passX (hd : 92 ≤ d) (hs : xS X d = (kcl q, 1)) (hs1 : xS X (d + 1) = (1, 15)) (hq : q < 5) (hk : k < n) (hn : n ≤ 12) (hf : ∀ j, j < 15 → xI X (d + 1) j = f (15 * k + j)) (hb : numOk f n) (hte : bnd te 1 200) (hrd : bnd rd 1 10000) (hrow : rowsOk (xI X 7) (xI X 6)) (hτ : mS w = nI τ) (hτ2 : τ < 3840) (hnd : nd ≤ τ) (hR : cRep 15 d n f bg te rd w X) (hD : cDk nd dk st X)
    (hK : ∀ X', PaF X X' → cRep 15 d n f bg te rd (tkG f k q bg te rd (pzI (plsF (xI X 7) (xI X 6) τ)) w) X' → cDk (ndS (plsF (xI X 7) (xI X 6) τ) nd) (dkS (plsF (xI X 7) (xI X 6) τ) nd dk (nI τ)) (stS (plsF (xI X 7) (xI X 6) τ)) X' → K (some (vI (tkV f k q te rd (pzI (plsF (xI X 7) (xI X 6) τ)) w))) X') : w_X4_pass tb0 [vR (some 14), vR (some 5), vI rd] X K KX := by
  obtain ⟨S, F, J, R, nn⟩ := X
  exact s_pass hd hs hs1 hq hk hn hf hb hte hrd hrow hτ hτ2 hnd hR hD hK
theorem s_rowedX (hc : c < 5) (hk : k < n) (hn : n ≤ 12) (hq : q < 5) (h45 : xI X 45 k = nI q) (hf : ∀ j, j < 15 → xI X 46 (15 * k + j) = f (15 * k + j)) (hb : numOk f n) (hte : bnd te 1 200) (hrd : bnd rd 1 10000) (hrow : rowsOk (xI X 43) (xI X 44)) (hτ : mS w = nI τ) (hτ2 : τ < 3840) (hnd : nd ≤ τ) (hR : mRep c k n f bg te rd w X) (hD : mDk c nd dk st X)
    (hK : ∀ X', RwF c X X' → mRep c k n f bg te rd (tkG f k q bg te rd (pzI (plsF (xI X 43) (xI X 44) τ)) w) X' → mDk c (ndS (plsF (xI X 43) (xI X 44) τ) nd) (dkS (plsF (xI X 43) (xI X 44) τ) nd dk (nI τ)) (stS (plsF (xI X 43) (xI X 44) τ)) X' → K (some (vI (tkV f k q te rd (pzI (plsF (xI X 43) (xI X 44) τ)) w))) X') : w_X12_rowed tb0 [vR (some 42), vI (nI c)] X K KX := by
  obtain ⟨S, F, J, R, nn⟩ := X
  exact s_rowed hc hk hn hq h45 hf hb hte hrd hrow hτ hτ2 hnd hR hD hK
/-- what a run of seconds reads and doesn't change -/
def EnvC (X : AX) (n k q d : Nat) (te rd : Int32) : Prop := rlT1 X k d ∧ xS X d = (kcl q, 1) ∧ q < 5 ∧ k < n ∧ n ≤ 12 ∧ numOk (xI X 46) n ∧ bnd te 1 200 ∧ bnd rd 1 10000 ∧ rlR X ∧ xI X 45 k = nI q
theorem c_pass (hE : EnvC X n k q d te rd) (hP : PaF X X1) (hτ : mS (sM x) = nI τ) (hτ2 : τ < 3840) (hnd : sN x ≤ τ) (hx : cST d n (xI X 46) bg te rd x X1)
    (hK : ∀ X', PaF X X' → cST d n (xI X 46) bg te rd (psS (xI X 46) k q bg te rd (xI X 7) (xI X 6) τ x) X' → K (some (vI (tkV (xI X 46) k q te rd (pzI (plsF (xI X 7) (xI X 6) τ)) (sM x)))) X') : w_X4_pass tb0 [vR (some 14), vR (some 5), vI rd] X1 K KX := by
  obtain ⟨⟨t1, t2, t3, t4, t5, t6, t7⟩, e2, e3, e4, e5, e6, e7, e8, e9, e10⟩ := hE
  obtain ⟨p1, p2, p3, p4, p5, p6⟩ := id hP
  have i7 : xI X1 7 = xI X 7 := p4 7 (by decide)
  have i6 : xI X1 6 = xI X 6 := p4 6 (by decide)
  refine s_passX (k := k) (q := q) (f := xI X 46) t2 (by rw [p1]; exact e2) (by rw [p1]; exact t5) e3 e4 e5 (fun j hj => by rw [p4 (d + 1) (by omega)]; exact (t7 j hj).1) e6 e7 e8 (by rw [i7, i6]; exact rows_of e9) hτ hτ2 hnd hx.1 hx.2 (fun X' hP' h1 h2 => ?_)
  rw [i7, i6] at h1 h2 ⊢
  exact hK X' (hP.trans hP') ⟨h1, h2⟩
theorem m_rowed (hE : EnvC X n k q d te rd) (hf : xI X1 46 = xI X 46 ∧ xI X1 45 = xI X 45 ∧ xI X1 43 = xI X 43 ∧ xI X1 44 = xI X 44) (hc : c < 5) (hP : RwF c X1 Y) (hτ : mS (sM x) = nI τ) (hτ2 : τ < 3840) (hnd : sN x ≤ τ) (hx : mST c k n (xI X 46) bg te rd x Y)
    (hK : ∀ X', RwF c X1 X' → mST c k n (xI X 46) bg te rd (psS (xI X 46) k q bg te rd (xI X 7) (xI X 6) τ x) X' → K (some (vI (tkV (xI X 46) k q te rd (pzI (plsF (xI X 7) (xI X 6) τ)) (sM x)))) X') : w_X12_rowed tb0 [vR (some 42), vI (nI c)] Y K KX := by
  obtain ⟨-, e2, e3, e4, e5, e6, e7, e8, e9, e10⟩ := hE
  obtain ⟨f46, f45, f43, f44⟩ := hf
  have p4 := hP.2.2.2.1
  have i43 : xI Y 43 = xI X 43 := (p4 43 (by decide) (by decide) (by decide) (by decide) (by decide) (by decide) (by decide) (by decide) (by decide)).trans f43
  have i44 : xI Y 44 = xI X 44 := (p4 44 (by decide) (by decide) (by decide) (by decide) (by decide) (by decide) (by decide) (by decide) (by decide)).trans f44
  have i45 : xI Y 45 = xI X 45 := (p4 45 (by decide) (by decide) (by decide) (by decide) (by decide) (by decide) (by decide) (by decide) (by decide)).trans f45
  have i46 : xI Y 46 = xI X 46 := (p4 46 (by decide) (by decide) (by decide) (by decide) (by decide) (by decide) (by decide) (by decide) (by decide)).trans f46
  refine s_rowedX (k := k) (q := q) (f := xI X 46) hc e4 e5 e3 (by rw [i45]; exact e10) (fun j _ => by rw [i46]) e6 e7 e8 (by rw [i43, i44]; exact rows_of' e9) hτ hτ2 hnd hx.1 hx.2 (fun X' hP' h1 h2 => ?_)
  rw [i43, i44, plF_eq e9 hτ2] at h1 h2 ⊢
  exact hK X' (hP.trans hP') ⟨h1, h2⟩
theorem PaF.rfl' {X : AX} : PaF X X := ⟨rfl, rfl, rfl, fun _ _ => rfl, fun _ _ _ _ _ _ => rfl, fun _ _ => rfl⟩
theorem RwF.rfl' {c : Nat} {X : AX} : RwF c X X := ⟨rfl, rfl, rfl, fun _ _ _ _ _ _ _ _ _ _ => rfl, fun _ _ _ => rfl, fun _ _ _ _ _ => rfl, fun _ _ _ => rfl, fun _ _ _ _ => rfl, fun _ _ => ⟨rfl, rfl⟩, fun _ _ => rfl⟩
/-- where a hire that runs stands -/
theorem sec_of (H : Rel L xs t n s h l X) (h6 : (xI X 14 6).toInt = 1) : ∃ k q d x τ, EnvC X n k q d (xI X 15 3) (xI X 65 0) ∧ xI X 65 0 = xI X 4 0 ∧ cST d n (xI X 46) (xI X 15 2) (xI X 15 3) (xI X 65 0) x X ∧ mST 0 k n (xI X 46) (xI X 15 2) (xI X 15 3) (xI X 65 0) x X ∧ xI X 15 4 = nI τ ∧ xI X 59 0 = nI τ ∧ τ ≤ 3840 ∧ mS (sM x) = nI τ ∧ sN x ≤ τ ∧ (sZ x = 0 ∨ sZ x = 1) ∧ sN x = (xI X 15 13).toNatClampNeg ∧ sD x = xI X 20 ∧ 0 ≤ mA (sM x) ∧ mA (sM x) < mB (sM x) ∧ 0 ≤ (mT (sM x)).toInt ∧ (mT (sM x)).toInt ≤ 501 * τ := by
  obtain ⟨hS, hW, hR, hT, hL, hE, hKk, hH, hC, hG⟩ := H
  obtain ⟨hall, g66, g65, g78, gf⟩ := hG.1 h6
  obtain ⟨k, q, d, v, hk, hq, hd, h45, hsd, h64, hc, hm, hv, hvT, hvA, hvB⟩ := rep_of hT hall
  obtain ⟨w1, w2, w3, w4, w5, -⟩ := hall
  obtain ⟨a1, a2, a3, a4, a5, a6, a7, a8, a9, a10, a11, a12, a13, a14, a15, a16, a17, a18, a19, a20, a21, a22, a23⟩ := w1
  have a6' := a6
  unfold bnd at a6'
  have c4 := clp a6'.1
  have c13 := clp a19
  have e4 : xI X 15 4 = nI (xI X 15 4).toNatClampNeg := nI_ofI a6'.1
  have e13 : xI X 15 13 = nI (xI X 15 13).toNatClampNeg := nI_ofI a19
  refine ⟨k, q, d, mkT v (xI X 15 13).toNatClampNeg (xI X 20) (xI X 15 14), (xI X 15 4).toNatClampNeg, ⟨hd, hsd, hq, hk, hT.2.2.1, num_of hT, a4, a7, hR, h45⟩, g65, ⟨hc, e13, fun _ _ => rfl, rfl⟩, ⟨hm, a18.trans e13, fun j hj => w5 j hj, g78⟩, e4, a5.trans e4, by omega, hv.trans e4, ?_, a21, rfl, rfl, hvA, hvB, ?_, ?_⟩
  · show (xI X 15 13).toNatClampNeg ≤ _
    omega
  · show 0 ≤ (mT v).toInt
    rw [hvT]; exact a22
  · show (mT v).toInt ≤ _
    rw [hvT, c4]; exact a23
/-- steps over a run -/
theorem it_st (hE : EnvC X n k q d te rd) (h5 : rd.toInt ≤ 10000) (hτ : mS (sM x) = nI τ) (hA0 : 0 ≤ mA (sM x)) (hAB : mA (sM x) < mB (sM x)) (hT0 : 0 ≤ (mT (sM x)).toInt) (hT1 : (mT (sM x)).toInt ≤ 501 * τ) : ∀ i, τ + i ≤ 3840 → 0 ≤ mA (sM (itS (xI X 46) k q bg te rd (xI X 7) (xI X 6) τ x i)) ∧ mA (sM (itS (xI X 46) k q bg te rd (xI X 7) (xI X 6) τ x i)) < mB (sM (itS (xI X 46) k q bg te rd (xI X 7) (xI X 6) τ x i)) ∧ 0 ≤ (mT (sM (itS (xI X 46) k q bg te rd (xI X 7) (xI X 6) τ x i))).toInt ∧ (mT (sM (itS (xI X 46) k q bg te rd (xI X 7) (xI X 6) τ x i))).toInt ≤ 501 * ((τ + i : Nat) : Int)
  | 0, _ => ⟨hA0, hAB, hT0, hT1⟩
  | i + 1, hi => by
    obtain ⟨b1, b2, b3, b4⟩ := it_st hE h5 hτ hA0 hAB hT0 hT1 i (by omega)
    generalize hy : itS (xI X 46) k q bg te rd (xI X 7) (xI X 6) τ x i = y at b1 b2 b3 b4
    have e : itS (xI X 46) k q bg te rd (xI X 7) (xI X 6) τ x (i + 1) = psS (xI X 46) k q bg te rd (xI X 7) (xI X 6) (τ + i) y := by rw [← hy]; try rfl
    rw [e]
    obtain ⟨-, e2, e3, e4, e5, e6, e7, e8, e9, e10⟩ := hE
    obtain ⟨u1', u2'⟩ := plF_bd (rows_of e9) (show τ + i < 3840 by omega)
    obtain ⟨⟨w1, w2, w3, w4⟩, -⟩ := pz_ok (rd := rd) u1' u2' e8
    have e8' := e8
    unfold bnd at e8'
    have hp5 : (pzI (plsF (xI X 7) (xI X 6) (τ + i))).toInt * rd.toInt ≤ 5000000 := by
      have q1 : 0 ≤ (pzI (plsF (xI X 7) (xI X 6) (τ + i))).toInt ∧ (pzI (plsF (xI X 7) (xI X 6) (τ + i))).toInt ≤ 500 := by
        unfold pzI
        by_cases z : plsF (xI X 7) (xI X 6) (τ + i) = -1
        · rw [if_pos z]; decide
        · rw [if_neg z, n_i2l]
          have em : (-1 : Int32).toInt = -1 := by decide
          have : ¬ (plsF (xI X 7) (xI X 6) (τ + i)).toInt = -1 := fun y => z (Int32.toInt_inj.mp (y.trans em.symm))
          omega
      exact (mulb q1.1 q1.2 (show 0 ≤ rd.toInt by omega) e8'.2).2
    obtain ⟨c1, c2, c3, c4⟩ := tk_st (q := q) (bg := bg) (s := sM y) e6 e4 e7 (w1 ▸ w3) hp5 b1 b2 b3 (by omega)
    exact ⟨c1, c2, Int.le_trans b3 c3, by
      have : (mT (sM (psS (xI X 46) k q bg te rd (xI X 7) (xI X 6) (τ + i) y))).toInt ≤ (mT (sM y)).toInt + 501 := c4
      omega⟩
theorem mST_bw {v : Int64} (hP : PaF X X1) (hm : mST 0 k n (xI X 46) bg te rd x X) : mST 0 k n (xI X 46) bg te rd x (bw X1 v) := by
  obtain ⟨p1, p2, p3, p4, p5, p6⟩ := hP
  have r : ∀ i, 20 < i → i ≠ 42 → xI (bw X1 v) i = xI X i := fun i c1 c2 => by
    show u2 (xI X1) 42 0 0 i = _
    rw [u2_ne _ _ _ c2]; exact p4 i (by omega)
  have rj : ∀ i, i ≠ 15 → i ≠ 91 → xJ (bw X1 v) i = xJ X i := fun i c1 c2 => by
    show u2 (xJ X1) 91 0 v i = _
    rw [u2_ne _ _ _ c2]; exact p6 i c1
  obtain ⟨h1, h2, h3, h4⟩ := hm
  refine ⟨mRep_fr (fun i hi => by rw [r i (by omega) (by omega)]) (by rw [rj 74 (by decide) (by decide)]) (by rw [rj 75 (by decide) (by decide)]) (rj 85 (by decide) (by decide)) (rj 86 (by decide) (by decide)) h1, by rw [r 69 (by decide) (by decide)]; exact h2, fun j hj => by rw [r 82 (by decide) (by decide)]; exact h3 j hj, by rw [r 78 (by decide) (by decide)]; exact h4⟩
set_option maxHeartbeats 1000000 in
theorem op_second (ht : t < 600) (H : Rel L xs t n s h l X) (hK : ∀ c X1, SamS X X1 → (∀ K2 KX2, (∀ b X4, FinI L xs t c b X4 → K2 (some (vI b)) X4) → w_X12_second tb0 [vR (some 42)] X1 K2 KX2) → K (some (vI c)) X1) : w_L_second tb0 [vR (some 4), vR (some 91)] X K KX := by
  obtain ⟨hS, hW, hR, hT, hL, hE, hKk, hH, hC, hG⟩ := id H
  have hb := hH.2.2.2.2.1
  have hr : xI X 42 14 = xI X 14 6 := hH.2.2.2.1
  unfold bl at hb
  have e38 : (3840 : Int32).toInt = 3840 := by decide
  have z1 : nI 1 = (1 : Int32) := by decide
  refine i_L_second (i_X11_second (s_hired hb (fun h6 => rV_in ?_) (fun h6 n1 hn => ?_)))
  · obtain ⟨k, q, d, x, τ, hEn, h65, hc, hm, h4, h59, hτ, hτ1, hnd, hz, hn0, hd0, hA0, hAB, hT0, hT1⟩ := sec_of H h6
    have r1 : ¬ xI X 42 14 = 0 := fun z => by rw [hr] at z; rw [z] at h6; exact absurd h6 (by decide)
    have eτ : (nI τ).toInt = τ := nI_toInt (by omega)
    refine ⟨fun z => e_X11_second_24 (e_X11_second_25 (s_demandState0 fun n1 hn => ?_)), fun z => e_X11_second_25 (s_demandState1 (rV_in ?_))⟩
    · refine ite_t rfl (gd_in (by decide) (e_L_second_12 (hK _ _ (SamS.mk rfl rfl) (fun K2 KX2 hK2 => i_X12_second ⟨fun z => absurd z r1, fun _ => ⟨by unfold vp_in; decide, fun _ => e_X12_second_29 (e_X12_second_30 (s_right0 (by decide) (rI_in ⟨fun _ => e_X12_second_45 (e_X12_second_46 (hK2 _ _ (fin_thr H hn _ (by decide)))), fun z => absurd rfl z⟩))), fun z2 => absurd ?_ z2⟩⟩))))
      have z' : (3840 : Int32) ≤ xI X 15 4 := z
      show (3840 : Int32) ≤ xI X 59 0
      rw [h59, ← h4]; exact z'
    · have z' : ¬ (3840 : Int32) ≤ xI X 15 4 := z
      have τlt : τ < 3840 := by
        rcases Nat.lt_or_ge τ 3840 with g | g
        · exact g
        · refine absurd (Int32.le_iff_toInt_le.mpr ?_) z'
          rw [h4, eτ, e38]; omega
      rw [← h65]
      refine c_pass hEn PaF.rfl' hτ1 τlt hnd hc (fun X' hP hc' => rI_in (rI_in ⟨by unfold vp_in; decide, e_L_second_14 (hK 0 _ (SamS.mk ?_ ?_) (fun K2 KX2 hK2 => i_X12_second ⟨fun z => absurd z ?_, fun _ => ⟨by unfold vp_in; decide, fun z => absurd ?_ z', fun _ => e_X12_second_30 (s_right1 (rI_in ⟨fun z => absurd z (by decide), fun _ => ?_⟩))⟩⟩))⟩))
      · exact congrFun hP.1 0
      · exact hP.2.2.2.1 0 (by decide)
      · show ¬ xI X' 42 14 = 0
        rw [hP.2.2.2.1 42 (by decide)]; exact r1
      · have z2 : (3840 : Int32) ≤ xI X' 59 0 := z
        rw [hP.2.2.2.1 59 (by decide), h59, ← h4] at z2
        exact z2
      · obtain ⟨i1, i2, i3, i4, i5⟩ := it_ok (f := xI X 46) (k := k) (q := q) (bg := xI X 15 2) (te := xI X 15 3) (rd := xI X 65 0) (ln := xI X 7) (nu := xI X 6) hτ1 hnd hz 1
        have kf : ∀ i, i = 43 ∨ i = 44 ∨ i = 45 ∨ i = 46 → xI (bw X' (tkV (xI X 46) k q (xI X 15 3) (xI X 65 0) (pzI (plsF (xI X 7) (xI X 6) τ)) (sM x)).toInt64) i = xI X i := fun i hi => by
          show u2 (xI X') 42 0 0 i = _
          rw [u2_ne _ _ _ (by omega)]; exact hP.2.2.2.1 i (by omega)
        refine m_rowed (X1 := bw X' (tkV (xI X 46) k q (xI X 15 3) (xI X 65 0) (pzI (plsF (xI X 7) (xI X 6) τ)) (sM x)).toInt64) (c := 0) hEn ⟨kf 46 (by decide), kf 45 (by decide), kf 43 (by decide), kf 44 (by decide)⟩ (by decide) RwF.rfl' hτ1 τlt hnd (mST_bw (X1 := X') (v := (tkV (xI X 46) k q (xI X 15 3) (xI X 65 0) (pzI (plsF (xI X 7) (xI X 6) τ)) (sM x)).toInt64) hP hm) (fun Y hQ hm' => rI_in (e_X12_second_46 ?_))
        have hx' : bnd (mS (sM (psS (xI X 46) k q (xI X 15 2) (xI X 15 3) (xI X 65 0) (xI X 7) (xI X 6) τ x))) 0 3840 := by
          have i1' : mS (sM (psS (xI X 46) k q (xI X 15 2) (xI X 15 3) (xI X 65 0) (xI X 7) (xI X 6) τ x)) = nI (τ + 1) := i1
          rw [i1']
          unfold bnd
          rw [nI_toInt (by omega)]; omega
        have hstp : 0 ≤ (mT (sM (psS (xI X 46) k q (xI X 15 2) (xI X 15 3) (xI X 65 0) (xI X 7) (xI X 6) τ x))).toInt ∧ (mT (sM (psS (xI X 46) k q (xI X 15 2) (xI X 15 3) (xI X 65 0) (xI X 7) (xI X 6) τ x))).toInt ≤ 501 * (mS (sM (psS (xI X 46) k q (xI X 15 2) (xI X 15 3) (xI X 65 0) (xI X 7) (xI X 6) τ x))).toInt := by
          obtain ⟨-, -, s3, s4⟩ := it_st (bg := xI X 15 2) hEn hEn.2.2.2.2.2.2.2.1.2 hτ1 hA0 hAB hT0 hT1 1 (by omega)
          have i1' : mS (sM (psS (xI X 46) k q (xI X 15 2) (xI X 15 3) (xI X 65 0) (xI X 7) (xI X 6) τ x)) = nI (τ + 1) := i1
          rw [i1', nI_toInt (by omega)]
          exact ⟨s3, s4⟩
        obtain ⟨R1, R2, R3⟩ := rel_sec (x := psS (xI X 46) k q (xI X 15 2) (xI X 15 3) (xI X 65 0) (xI X 7) (xI X 6) τ x) ht H h6 hEn.2.2.2.1 hEn.1 rfl rfl rfl hx' (by
          have i1' : mS (sM (psS (xI X 46) k q (xI X 15 2) (xI X 15 3) (xI X 65 0) (xI X 7) (xI X 6) τ x)) = nI (τ + 1) := i1
          rw [i1', nI_clamp (by omega)]; exact i2) i3 hstp ⟨by rw [← hn0]; exact i4, fun j hj => by rw [← hn0] at hj; rw [← hd0]; exact i5 j hj⟩ hP hc' hQ hm'
        exact hK2 _ _ ⟨⟨n, s, h, l, R1⟩, R2, fun _ => R3⟩
  · refine ite_t rfl (gd_in (by decide) (e_L_second_12 (hK _ _ (SamS.mk rfl rfl) (fun K2 KX2 hK2 => i_X12_second ⟨fun _ => e_X12_second_29 (e_X12_second_30 (s_right0 (by decide) (rI_in ⟨fun _ => e_X12_second_45 (e_X12_second_46 (hK2 _ _ (fin_thr H hn _ (by decide)))), fun z => absurd rfl z⟩))), fun z => absurd ?_ z⟩))))
    show xI X 42 14 = 0
    rw [hr]
    rcases hb with e | e
    · exact e
    · rw [e] at h6; exact absurd h6 (by decide)
/-- the class's run -/
theorem c_run (hE : EnvC X n k q d te rd) (h4 : rd = xI X 4 0) (hτ : mS (sM x) = nI τ) (hnd : sN x ≤ τ) (hz : sZ x = 0 ∨ sZ x = 1) (hN : τ + N ≤ 3840) (hK : ∀ X', PaF X X' → cST d n (xI X 46) bg te rd (itS (xI X 46) k q bg te rd (xI X 7) (xI X 6) τ x N) X' → K (some (vI (nI N))) X') : ∀ r i X1, i + r = N → PaF X X1 → cST d n (xI X 46) bg te rd (itS (xI X 46) k q bg te rd (xI X 7) (xI X 6) τ x i) X1 → r_X11_run tb0 K KX 36 [some (vR (some 4)), some (vI a0), some (vI (nI N)), some (vI (nI i))] [] X1 2 12
  | 0, i, X1, hi, hP, hc => by
    obtain rfl : i = N := by omega
    exact e_X11_run_36 ⟨fun _ => e_X11_run_63 (hK X1 hP hc), fun z => absurd (Int32.le_iff_toInt_le.mpr (Int.le_refl _)) z⟩
  | r + 1, i, X1, hi, hP, hc => by
    refine e_X11_run_36 ⟨fun z => ?_, fun _ => ?_⟩
    · have := Int32.le_iff_toInt_le.mp z
      rw [nI_toInt (by omega), nI_toInt (by omega)] at this
      omega
    · obtain ⟨i1, i2, i3, i4, i5⟩ := it_ok (f := xI X 46) (k := k) (q := q) (bg := bg) (te := te) (rd := rd) (ln := xI X 7) (nu := xI X 6) hτ hnd hz i
      rw [show xI X1 4 0 = rd by rw [hP.2.2.2.1 4 (by decide), h4]]
      refine c_pass hE hP i1 (by omega) i2 hc (fun X' hP' hc' => rI_in ?_)
      rw [nI_1]
      exact c_run hE h4 hτ hnd hz hN hK r (i + 1) X' (by omega) hP' hc'
/-- the reference's run -/
theorem m_run (hE : EnvC X n k q d te rd) (hf : xI X1 46 = xI X 46 ∧ xI X1 45 = xI X 45 ∧ xI X1 43 = xI X 43 ∧ xI X1 44 = xI X 44) (hτ : mS (sM x) = nI τ) (hnd : sN x ≤ τ) (hz : sZ x = 0 ∨ sZ x = 1) (hN : τ + N ≤ 3840) (ha : (a0.toInt = N ∧ τ + N ≤ 3840) ∨ ((N : Int) ≤ a0.toInt ∧ τ + N = 3840)) (hK : ∀ X', RwF 0 X1 X' → mST 0 k n (xI X 46) bg te rd (itS (xI X 46) k q bg te rd (xI X 7) (xI X 6) τ x N) X' → K (some (vI (nI N))) X') : ∀ r i Y, i + r = N → RwF 0 X1 Y → mST 0 k n (xI X 46) bg te rd (itS (xI X 46) k q bg te rd (xI X 7) (xI X 6) τ x i) Y → r_X12_run tb0 K KX 45 [some (vR (some 42)), some (vI a0), some (vI (nI i))] [] Y 0 0
  | 0, i, Y, hi, hP, hm => by
    obtain rfl : i = N := by omega
    obtain ⟨i1, i2, i3, i4, i5⟩ := it_ok (f := xI X 46) (k := k) (q := q) (bg := bg) (te := te) (rd := rd) (ln := xI X 7) (nu := xI X 6) hτ hnd hz i
    refine e_X12_run_45 ⟨fun _ => e_X12_run_74 (hK Y hP hm), fun z => ⟨by unfold vp_in; decide, fun _ => e_X12_run_74 (hK Y hP hm), fun z2 => ?_⟩⟩
    rcases ha with ⟨ha, _⟩ | ⟨ha, hb⟩
    · refine absurd (Int32.le_iff_toInt_le.mpr ?_) z
      rw [nI_toInt (by omega)]; omega
    · refine absurd (Int32.le_iff_toInt_le.mpr ?_) z2
      show (3840 : Int32).toInt ≤ (xI Y 59 0).toInt
      rw [show xI Y 59 0 = nI (τ + i) from hm.1.2.2.2.2.1.trans i1, nI_toInt (by omega)]
      have e38 : (3840 : Int32).toInt = 3840 := by decide
      omega
  | r + 1, i, Y, hi, hP, hm => by
    obtain ⟨i1, i2, i3, i4, i5⟩ := it_ok (f := xI X 46) (k := k) (q := q) (bg := bg) (te := te) (rd := rd) (ln := xI X 7) (nu := xI X 6) hτ hnd hz i
    refine e_X12_run_45 ⟨fun z => ?_, fun z => ⟨by unfold vp_in; decide, fun z2 => ?_, fun z2 => ?_⟩⟩
    · have := Int32.le_iff_toInt_le.mp z
      rw [nI_toInt (by omega)] at this
      omega
    · have z3 : (3840 : Int32) ≤ xI Y 59 0 := z2
      have := Int32.le_iff_toInt_le.mp z3
      rw [show xI Y 59 0 = nI (τ + i) from hm.1.2.2.2.2.1.trans i1, nI_toInt (by omega)] at this
      have e38 : (3840 : Int32).toInt = 3840 := by decide
      omega
    · refine m_rowed (X1 := X1) (c := 0) hE hf (by decide) hP i1 (by omega) i2 hm (fun X' hP' hm' => rI_in ?_)
      rw [nI_1]
      exact m_run hE hf hτ hnd hz hN ha hK r (i + 1) X' (by omega) hP' hm'
set_option maxHeartbeats 1000000 in
theorem op_run {a0 : Int32} (ht : t < 600) (H : Rel L xs t n s h l X) (hK : ∀ c X1, SamS X X1 → (∀ K2 KX2, (∀ b X4, FinI L xs t c b X4 → K2 (some (vI b)) X4) → w_X12_run tb0 [vR (some 42), vI a0] X1 K2 KX2) → K (some (vI c)) X1) : w_L_run tb0 [vR (some 4), vI a0, vR (some 91)] X K KX := by
  obtain ⟨hS, hW, hR, hT, hL, hE, hKk, hH, hC, hG⟩ := id H
  have hb := hH.2.2.2.2.1
  have hr : xI X 42 14 = xI X 14 6 := hH.2.2.2.1
  unfold bl at hb
  have e38 : (3840 : Int32).toInt = 3840 := by decide
  have e0 : (0 : Int32).toInt = 0 := by decide
  have z0 : nI 0 = (0 : Int32) := by decide
  refine i_L_run (i_X11_run (s_hired hb (fun h6 => rV_in (s_isFrom (fun q1 q2 => rI_in (s_demand1 (rV_in ?_))) (fun q => rI_in (s_demand0 fun n1 hn => ?_)))) (fun h6 n1 hn => ?_)))
  · rw [e0] at q1
    rw [e38] at q2
    obtain ⟨k, q, d, x, τ, hEn, h65, hc, hm, h4, h59, hτ, hτ1, hnd, hz, hn0, hd0, hA0, hAB, hT0, hT1⟩ := sec_of H h6
    have eτ : (nI τ).toInt = τ := nI_toInt (by omega)
    have ca := clp q1
    have e3 : (3840 - nI τ).toInt = 3840 - τ := by rw [n_sub] <;> rw [e38, eτ] <;> omega
    rw [show xI X 15 4 = nI τ from h4]
    have hmin : ∃ N : Nat, (if (3840 - nI τ : Int32) < a0 then (3840 - nI τ) else a0) = nI N ∧ τ + N ≤ 3840 ∧ ((a0.toInt = N ∧ τ + N ≤ 3840) ∨ ((N : Int) ≤ a0.toInt ∧ τ + N = 3840)) := by
      by_cases g : (3840 - nI τ : Int32) < a0
      · have g' := Int32.lt_iff_toInt_lt.mp g
        rw [e3] at g'
        refine ⟨3840 - τ, ?_, by omega, Or.inr ⟨by omega, by omega⟩⟩
        rw [if_pos g]
        exact Int32.toInt_inj.mp (by rw [e3, nI_toInt (by omega)]; omega)
      · have g' : ¬ (3840 - nI τ : Int32).toInt < a0.toInt := fun y => g (Int32.lt_iff_toInt_lt.mpr y)
        rw [e3] at g'
        refine ⟨a0.toNatClampNeg, ?_, by omega, Or.inl ⟨by omega, by omega⟩⟩
        rw [if_neg g]
        exact nI_ofI q1
    obtain ⟨N, eN, hN, hA⟩ := hmin
    rw [eN]
    have kc := c_run (X := X) (K := fun v2 X1 => rI v2 fun y3 => vp_in 0 1 ∧ (r_L_run tb0 K 18 [some (vR (some 4)), some (vI a0), some (vR (some 91)), none] [] (xS X1, xI X1, u2 (xJ X1) 91 (Int32.toNatClampNeg 0) (Int32.toInt64 y3), xR X1, xN X1) 2 12)) (KX := fun E X4 => if E = "java/lang/IllegalStateException" then gd (3 < 4 ∧ E ∈ thrNms) (r_L_run tb0 K 13 [some (vR (some 4)), some (vI a0), some (vR (some 91)), none] [] X4 2 12) else gd (E ∈ thrNms ∧ "java/lang/IllegalStateException" ∈ thrNms) (if E = "java/lang/IllegalArgumentException" then gd (3 < 4 ∧ E ∈ thrNms) (r_L_run tb0 K 16 [some (vR (some 4)), some (vI a0), some (vR (some 91)), none] [] X4 2 12) else gd (E ∈ thrNms ∧ "java/lang/IllegalArgumentException" ∈ thrNms) (False))) (a0 := a0) hEn h65 hτ1 hnd hz hN (fun X' hP hc' => rI_in ⟨by unfold vp_in; decide, e_L_run_18 (hK 0 _ (SamS.mk (congrFun hP.1 0) (hP.2.2.2.1 0 (by decide))) (fun K2 KX2 hK2 => i_X12_run (s_rightb (by decide) (Or.inr ?_) (fun _ => rI_in ⟨fun z => absurd z (by decide), fun _ => ⟨fun z => ?_, fun _ => ⟨fun z => ?_, fun _ => e_X12_run_34 (s_right1 (rI_in ⟨fun _ => e_X12_run_43 ?_, fun z => absurd z (by decide)⟩))⟩⟩⟩) (fun z => absurd z ?_))))⟩) N 0 X (by omega) PaF.rfl' hc
    · rw [z0] at kc
      exact kc
    · show (xI X' 42 14).toInt = 1
      rw [hP.2.2.2.1 42 (by decide), hr]; exact h6
    · have := Int32.lt_iff_toInt_lt.mp z
      omega
    · have := Int32.lt_iff_toInt_lt.mp z
      omega
    · obtain ⟨i1, i2, i3, i4, i5⟩ := it_ok (f := xI X 46) (k := k) (q := q) (bg := xI X 15 2) (te := xI X 15 3) (rd := xI X 65 0) (ln := xI X 7) (nu := xI X 6) hτ1 hnd hz N
      have kf : ∀ i, i = 43 ∨ i = 44 ∨ i = 45 ∨ i = 46 → xI (bw X' (nI N).toInt64) i = xI X i := fun i hi => by
        show u2 (xI X') 42 0 0 i = _
        rw [u2_ne _ _ _ (by omega)]; exact hP.2.2.2.1 i (by omega)
      have km := m_run (X := X) (X1 := bw X' (nI N).toInt64) (K := K2) (KX := KX2) (a0 := a0) hEn ⟨kf 46 (by decide), kf 45 (by decide), kf 43 (by decide), kf 44 (by decide)⟩ hτ1 hnd hz hN hA (fun Y hQ hm' => ?_) N 0 (bw X' (nI N).toInt64) (by omega) RwF.rfl' (mST_bw hP hm)
      · rw [z0] at km
        exact km
      · have hx' : bnd (mS (sM (itS (xI X 46) k q (xI X 15 2) (xI X 15 3) (xI X 65 0) (xI X 7) (xI X 6) τ x N))) 0 3840 := by
          rw [i1]
          unfold bnd
          rw [nI_toInt (by omega)]; omega
        have hstp : 0 ≤ (mT (sM (itS (xI X 46) k q (xI X 15 2) (xI X 15 3) (xI X 65 0) (xI X 7) (xI X 6) τ x N))).toInt ∧ (mT (sM (itS (xI X 46) k q (xI X 15 2) (xI X 15 3) (xI X 65 0) (xI X 7) (xI X 6) τ x N))).toInt ≤ 501 * (mS (sM (itS (xI X 46) k q (xI X 15 2) (xI X 15 3) (xI X 65 0) (xI X 7) (xI X 6) τ x N))).toInt := by
          obtain ⟨-, -, s3, s4⟩ := it_st (bg := xI X 15 2) hEn hEn.2.2.2.2.2.2.2.1.2 hτ1 hA0 hAB hT0 hT1 N hN
          rw [i1, nI_toInt (by omega)]
          exact ⟨s3, s4⟩
        obtain ⟨R1, R2, R3⟩ := rel_sec ht H h6 hEn.2.2.2.1 hEn.1 rfl rfl rfl hx' (by rw [i1, nI_clamp (by omega)]; exact i2) i3 hstp ⟨by rw [← hn0]; exact i4, fun j hj => by rw [← hn0] at hj; rw [← hd0]; exact i5 j hj⟩ hP hc' hQ hm'
        exact hK2 _ _ ⟨⟨n, s, h, l, R1⟩, R2, fun _ => R3⟩
    · show ¬ (xI X' 42 14).toInt = 0
      rw [hP.2.2.2.1 42 (by decide), hr]; omega
  · rw [e0, e38] at q
    refine ite_f (by decide) (gd_in (by decide) (ite_t rfl (gd_in (by decide) (e_L_run_16 (hK _ _ (SamS.mk rfl rfl) (fun K2 KX2 hK2 => i_X12_run (s_rightb (by decide) (Or.inr ?_) (fun _ => rI_in ⟨fun z => absurd z (by decide), fun _ => ⟨fun z => e_X12_run_33 (e_X12_run_34 (s_right0 (by decide) (rI_in ⟨fun z => absurd rfl z, fun _ => e_X12_run_41 (hK2 _ _ (fin_thr H hn _ (by decide)))⟩))), fun z => ⟨fun z => e_X12_run_33 (e_X12_run_34 (s_right0 (by decide) (rI_in ⟨fun z => absurd rfl z, fun _ => e_X12_run_41 (hK2 _ _ (fin_thr H hn _ (by decide)))⟩))), fun z2 => ?_⟩⟩⟩) (fun z => absurd z ?_))))))))
    · show (xI X 42 14).toInt = 1
      rw [hr]; exact h6
    · have y1 : ¬ a0.toInt < 0 := fun y => z (Int32.lt_iff_toInt_lt.mpr (by rw [e0]; exact y))
      have y2 : ¬ 3840 < a0.toInt := fun y => z2 (Int32.lt_iff_toInt_lt.mpr (by rw [e38]; exact y))
      exact absurd ⟨by omega, by omega⟩ q
    · show ¬ (xI X 42 14).toInt = 0
      rw [hr]; omega
  · refine ite_t rfl (gd_in (by decide) (e_L_run_13 (hK _ _ (SamS.mk rfl rfl) (fun K2 KX2 hK2 => i_X12_run (s_rightb (by decide) (Or.inl ?_) (fun z => absurd z ?_) (fun _ => rI_in ⟨fun _ => e_X12_run_41 (hK2 _ _ (fin_thr H hn _ (by decide))), fun z => absurd rfl z⟩))))))
    · show (xI X 42 14).toInt = 0
      rw [hr]; exact h6
    · show ¬ (xI X 42 14).toInt = 1
      rw [hr]; omega
end Ops
