/-! should -/
section Ops
variable {L : Nat} {xs : Nat → Int32} {t n s h l : Nat} {X : AX} {K : Option AV → AX → Prop} {KX : String → AX → Prop}
variable {Y Z X1 : AX} {k q d c N : Nat} {f sp lg : Nat → Int32} {bg te rd e : Int32} {w : MtS} {p : Int64}
theorem s_tickX_37 {a : Int32} (hd : 92 ≤ d) (hs : xS X d = (kcl q, 1)) (hs1 : xS X (d + 1) = (1, 15)) (hq : q < 5) (hk : k < n) (hn : n ≤ 12) (hf : ∀ j, j < 15 → xI X (d + 1) j = f (15 * k + j)) (hb : numOk f n) (hte : bnd te 1 200) (hw : wayOk p rd a) (hR : cRep 37 d n f bg te rd w X) (hK : ∀ X', TkF 37 X X' → cRep 37 d n f bg te rd (tkG f k q bg te rd p w) X' → K (some (vI (tkV f k q te rd p w))) X') : w_X5_tick tb0 [vR (some 37), vI a] X K KX := by
  obtain ⟨S, F, J, R, nn⟩ := X
  exact s_tick_37 hd hs hs1 hq hk hn hf hb hte hw hR hK
theorem s_tickX_29 {a : Int32} (hd : 92 ≤ d) (hs : xS X d = (kcl q, 1)) (hs1 : xS X (d + 1) = (1, 15)) (hq : q < 5) (hk : k < n) (hn : n ≤ 12) (hf : ∀ j, j < 15 → xI X (d + 1) j = f (15 * k + j)) (hb : numOk f n) (hte : bnd te 1 200) (hw : wayOk p rd a) (hR : cRep 29 d n f bg te rd w X) (hK : ∀ X', TkF 29 X X' → cRep 29 d n f bg te rd (tkG f k q bg te rd p w) X' → K (some (vI (tkV f k q te rd p w))) X') : w_X5_tick tb0 [vR (some 29), vI a] X K KX := by
  obtain ⟨S, F, J, R, nn⟩ := X
  exact s_tick_29 hd hs hs1 hq hk hn hf hb hte hw hR hK
theorem s_passesX (hc : c < 5) (hk : k < n) (hn : n ≤ 12) (hq : q < 5) (h45 : xI X 45 k = nI q) (hf : ∀ j, j < 15 → xI X 46 (15 * k + j) = f (15 * k + j)) (hb : numOk f n) (hte : bnd te 1 200) (hw0 : 0 ≤ p.toInt * rd.toInt) (hw1 : p.toInt * rd.toInt ≤ 10000000) (hwp : (p * rd.toInt64).toInt = p.toInt * rd.toInt) (hR : mRep c k n f bg te rd w X) (hK : ∀ X', PsF c X X' → mRep c k n f bg te rd (tkG f k q bg te rd p w) X' → K (some (vI (tkV f k q te rd p w))) X') : w_X12_passes tb0 [vR (some 42), vI (nI c), vL p] X K KX := by
  obtain ⟨S, F, J, R, nn⟩ := X
  exact s_passes hc hk hn hq h45 hf hb hte hw0 hw1 hwp hR hK
/-- so many seconds with one speed -/
noncomputable def rpS (f : Nat → Int32) (k q : Nat) (bg : Int32) (p : Int64) : Nat → MtS → MtS
  | 0, s => s
  | i + 1, s => tkG f k q bg 1 1 p (rpS f k q bg p i s)
/-- so many legs -/
noncomputable def lgsS (f : Nat → Int32) (k q : Nat) (bg : Int32) (sp lg : Nat → Int32) : Nat → MtS → MtS
  | 0, s => s
  | i + 1, s => rpS f k q bg (sp i).toInt64 (lg i).toNatClampNeg (lgsS f k q bg sp lg i s)
theorem rpS_st (hb : numOk (xI X 46) n) (hk : k < n) {a : Int32} (h0 : 0 ≤ a.toInt) (h1 : a.toInt ≤ 60000) (a0 : 0 ≤ mA w) (a1 : mA w < mB w) (t0 : 0 ≤ (mT w).toInt) (t1 : (mT w).toInt ≤ 501 * N) : ∀ j, N + j ≤ 3840 → 0 ≤ mA (rpS (xI X 46) k q bg a.toInt64 j w) ∧ mA (rpS (xI X 46) k q bg a.toInt64 j w) < mB (rpS (xI X 46) k q bg a.toInt64 j w) ∧ 0 ≤ (mT (rpS (xI X 46) k q bg a.toInt64 j w)).toInt ∧ (mT (rpS (xI X 46) k q bg a.toInt64 j w)).toInt ≤ 501 * ((N + j : Nat) : Int)
  | 0, _ => ⟨a0, a1, t0, t1⟩
  | j + 1, hj => by
    obtain ⟨b1, b2, b3, b4⟩ := rpS_st hb hk h0 h1 a0 a1 t0 t1 j (by omega)
    have e1 : (1 : Int32).toInt = 1 := by decide
    have ea : a.toInt64.toInt * (1 : Int32).toInt = a.toInt := by rw [n_i2l, e1, Int.mul_one]
    have hte : bnd (1 : Int32) 1 200 := by unfold bnd; decide
    obtain ⟨c1, c2, c3, c4⟩ := tk_st (q := q) (bg := bg) (te := 1) (rd := 1) (p := a.toInt64) (s := rpS (xI X 46) k q bg a.toInt64 j w) hb hk hte (by omega) (by omega) b1 b2 b3 (by omega)
    refine ⟨c1, c2, Int.le_trans b3 c3, ?_⟩
    show (mT (tkG (xI X 46) k q bg 1 1 a.toInt64 (rpS (xI X 46) k q bg a.toInt64 j w))).toInt ≤ _
    omega
theorem sum_mono {l : Nat} (hK : rlK l X) : ∀ i, i ≤ l → 0 ≤ sumI (xI X 36) i ∧ sumI (xI X 36) i ≤ sumI (xI X 36) l := by
  obtain ⟨k1, k2, k3, k4, k5, k6⟩ := hK
  have up : ∀ i, i ≤ l → 0 ≤ sumI (xI X 36) i := fun i => by
    induction i with
    | zero => intro _; exact Int.le_refl _
    | succ i ih =>
      intro hi
      have s4 := (k4 i (by omega)).2.2.2
      unfold bnd at s4
      have := ih (by omega)
      show 0 ≤ sumI (xI X 36) i + (xI X 36 i).toInt
      omega
  have dn : ∀ r i, i + r = l → sumI (xI X 36) i ≤ sumI (xI X 36) l := fun r => by
    induction r with
    | zero => intro i hi; rw [show i = l by omega]; exact Int.le_refl _
    | succ r ih =>
      intro i hi
      have s4 := (k4 i (by omega)).2.2.2
      unfold bnd at s4
      have := ih (i + 1) (by omega)
      have e : sumI (xI X 36) (i + 1) = sumI (xI X 36) i + (xI X 36 i).toInt := rfl
      omega
  exact fun i hi => ⟨up i hi, dn (l - i) i (by omega)⟩
theorem lgsS_st {l : Nat} (hb : numOk (xI X 46) n) (hk : k < n) (hK : rlK l X) (a0 : 0 ≤ mA w) (a1 : mA w < mB w) (t0 : (mT w).toInt = 0) : ∀ i, i ≤ l → 0 ≤ mA (lgsS (xI X 46) k q bg (xI X 35) (xI X 36) i w) ∧ mA (lgsS (xI X 46) k q bg (xI X 35) (xI X 36) i w) < mB (lgsS (xI X 46) k q bg (xI X 35) (xI X 36) i w) ∧ 0 ≤ (mT (lgsS (xI X 46) k q bg (xI X 35) (xI X 36) i w)).toInt ∧ (mT (lgsS (xI X 46) k q bg (xI X 35) (xI X 36) i w)).toInt ≤ 501 * ((sumI (xI X 36) i).toNat : Int)
  | 0, _ => ⟨a0, a1, by rw [show lgsS (xI X 46) k q bg (xI X 35) (xI X 36) 0 w = w from rfl, t0]; decide, by rw [show lgsS (xI X 46) k q bg (xI X 35) (xI X 36) 0 w = w from rfl, t0]; show (0 : Int) ≤ 501 * (((0 : Int).toNat : Nat) : Int); decide⟩
  | i + 1, hi => by
    obtain ⟨b1, b2, b3, b4⟩ := lgsS_st hb hk hK a0 a1 t0 i (by omega)
    obtain ⟨s1, s2, s3, s4⟩ := hK.2.2.2.1 i (by omega)
    unfold bnd at s2 s4
    obtain ⟨m1, m2⟩ := sum_mono hK i (by omega)
    obtain ⟨m3, m4⟩ := sum_mono hK (i + 1) hi
    have k5 := hK.2.2.2.2.1
    have k6 := hK.2.2.2.2.2
    have cl := clp (x := xI X 36 i) (by omega)
    have e : sumI (xI X 36) (i + 1) = sumI (xI X 36) i + (xI X 36 i).toInt := rfl
    have r := rpS_st (q := q) (bg := bg) (N := (sumI (xI X 36) i).toNat) hb hk s2.1 s2.2 b1 b2 b3 b4 (xI X 36 i).toNatClampNeg (by omega)
    refine ⟨r.1, r.2.1, r.2.2.1, Int.le_trans r.2.2.2 ?_⟩
    rw [e]; omega
def cSH (d n : Nat) (f : Nat → Int32) (bg e : Int32) (w : MtS) (X : AX) : Prop := cRep 37 d n f bg 1 1 w X ∧ xI X 37 9 = e ∧ xI X 37 12 = 0
theorem way1 {a : Int32} (h0 : 0 ≤ a.toInt) (h1 : a.toInt ≤ 60000) : wayOk a.toInt64 1 a ∧ (a.toInt64 * (1 : Int32).toInt64).toInt = a.toInt64.toInt * (1 : Int32).toInt := by
  have e1 : (1 : Int32).toInt = 1 := by decide
  have e2 : (1 : Int32).toInt64 = 1 := by decide
  refine ⟨⟨by rw [n_i2l, e1, Int.mul_one], by rw [e2, Int64.mul_one], h0, by omega⟩, by rw [e2, Int64.mul_one, e1, Int.mul_one]⟩
/-- tariff and legs, as they stand -/
def EnvS (X : AX) (n k q d l : Nat) : Prop := rlT1 X k d ∧ xS X d = (kcl q, 1) ∧ q < 5 ∧ k < n ∧ n ≤ 12 ∧ numOk (xI X 46) n ∧ xI X 45 k = nI q ∧ rlK l X
theorem c_leg (hE : EnvS X n k q d l) {i : Nat} (hi : i < l) (hK : ∀ X', CmF 37 X X' → cSH d n (xI X 46) bg e (rpS (xI X 46) k q bg (xI X 35 i).toInt64 (xI X 36 i).toNatClampNeg w) X' → r_X10_drive tb0 K KX 39 [some (vR (some 34)), some (vR (some 37)), some (vI (nI i)), some (vI (xI X 36 i))] [] X' 0 0) : ∀ r j X1, j + r = (xI X 36 i).toNatClampNeg → CmF 37 X X1 → cSH d n (xI X 46) bg e (rpS (xI X 46) k q bg (xI X 35 i).toInt64 j w) X1 → r_X10_drive tb0 K KX 12 [some (vR (some 34)), some (vR (some 37)), some (vI (nI i)), some (vI (nI j))] [] X1 0 0 := by
  obtain ⟨⟨t1, t2, t3, t4, t5, t6, t7⟩, e2, e3, e4, e5, e6, e7, k1, k2, k3, k4, k5, k6⟩ := hE
  obtain ⟨s1, s2, s3, s4⟩ := k4 i hi
  have s2' := s2
  have s4' := s4
  unfold bnd at s2' s4'
  have cl := clp (x := xI X 36 i) (by omega)
  have ei : (nI i).toNatClampNeg = i := nI_clamp (by omega)
  have vi : vp_in (nI i) 20 := vp_in_nI (by omega) (by decide)
  have e36 : xI X 36 i = nI (xI X 36 i).toNatClampNeg := nI_ofI (by omega)
  have hte : bnd (1 : Int32) 1 200 := by unfold bnd; decide
  intro r
  induction r with
  | zero =>
    intro j X1 hj hF hc
    have hj' : j = (xI X 36 i).toNatClampNeg := by omega
    have x36 : xI X1 36 i = xI X 36 i := by rw [hF.2.2.2.1 36 (by decide)]
    refine e_X10_drive_12_m37 ?_
    rw [ei]
    refine ⟨vi, fun _ => ?_, fun z => ?_⟩
    · rw [hj'] at hc ⊢
      rw [← e36]
      exact hK X1 hF hc
    · refine absurd ?_ z
      rw [x36, hj', ← e36]
      exact Int32.le_iff_toInt_le.mpr (Int.le_refl _)
  | succ r ih =>
    intro j X1 hj hF hc
    have x36 : xI X1 36 i = xI X 36 i := by rw [hF.2.2.2.1 36 (by decide)]
    have x35 : xI X1 35 i = xI X 35 i := by rw [hF.2.2.2.1 35 (by decide)]
    refine e_X10_drive_12_m37 ?_
    rw [ei]
    refine ⟨vi, fun z => ?_, fun _ => ⟨vi, ?_⟩⟩
    · rw [x36] at z
      have := Int32.le_iff_toInt_le.mp z
      rw [nI_toInt (by omega)] at this
      omega
    · rw [x35]
      have p4 := hF.2.2.2.1
      refine s_tickX_37 (k := k) (q := q) (f := xI X 46) (rd := 1) (te := 1) (bg := bg) (d := d) t2 (by rw [hF.1]; exact e2) (by rw [hF.1]; exact t5) e3 e4 e5 (fun j hj => by rw [p4 (d + 1) (by omega)]; exact (t7 j hj).1) e6 hte (way1 s2'.1 s2'.2).1 hc.1 (fun X' hT hc' => rI_in ?_)
      rw [nI_1]
      exact ih (j + 1) X' (by omega) (hF.trans (CmF.of_tick hT)) ⟨hc', (hT.2.2.2.2.1 9 (by decide) (by decide) (by decide)).trans hc.2.1, (hT.2.2.2.2.1 12 (by decide) (by decide) (by decide)).trans hc.2.2⟩
theorem c_legs (hE : EnvS X n k q d l) (hK : ∀ X', CmF 37 X X' → cSH d n (xI X 46) bg e (lgsS (xI X 46) k q bg (xI X 35) (xI X 36) l w) X' → K none X') : ∀ r i X1 l3, i + r = l → CmF 37 X X1 → cSH d n (xI X 46) bg e (lgsS (xI X 46) k q bg (xI X 35) (xI X 36) i w) X1 → r_X10_drive tb0 K KX 2 [some (vR (some 34)), some (vR (some 37)), some (vI (nI i)), some (vI l3)] [] X1 0 0
  | 0, i, X1, l3, hi, hF, hc => by
    obtain rfl : i = l := by omega
    have hl := hE.2.2.2.2.2.2.2.2.2.1
    refine e_X10_drive_2_m37b ⟨fun _ => e_X10_drive_45_m37b (hK X1 hF hc), fun z => absurd ?_ z⟩
    rw [show xI X1 34 2 = nI i by rw [hF.2.2.2.1 34 (by decide)]; exact hE.2.2.2.2.2.2.2.1]
    exact Int32.le_iff_toInt_le.mpr (Int.le_refl _)
  | r + 1, i, X1, l3, hi, hF, hc => by
    have hl := hE.2.2.2.2.2.2.2.2.2.1
    have z0 : nI 0 = (0 : Int32) := by decide
    refine e_X10_drive_2_m37b ⟨fun z => ?_, fun _ => ?_⟩
    · rw [show xI X1 34 2 = nI l by rw [hF.2.2.2.1 34 (by decide)]; exact hE.2.2.2.2.2.2.2.1] at z
      have := Int32.le_iff_toInt_le.mp z
      rw [nI_toInt (by omega), nI_toInt (by omega)] at this
      omega
    · rw [← z0]
      refine c_leg hE (by omega) (fun X' hF' hc' => e_X10_drive_39_m37 ?_) (xI X 36 i).toNatClampNeg 0 X1 (by omega) hF hc
      rw [nI_1]
      exact c_legs hE hK r (i + 1) X' _ (by omega) hF' hc'
theorem c_drive (hE : EnvS X n k q d l) (hc : cSH d n (xI X 46) bg e w X1) (hF : CmF 37 X X1) (hK : ∀ X', CmF 37 X X' → cSH d n (xI X 46) bg e (lgsS (xI X 46) k q bg (xI X 35) (xI X 36) l w) X' → K none X') : w_X10_drive tb0 [vR (some 34), vR (some 37)] X1 K KX := by
  have hl := hE.2.2.2.2.2.2.2.2.2.1
  have z0 : nI 0 = (0 : Int32) := by decide
  have e34 : xI X1 34 2 = nI l := by rw [hF.2.2.2.1 34 (by decide)]; exact hE.2.2.2.2.2.2.2.1
  refine i_X10_drive_m37 (e_X10_drive_2_m37 ⟨fun z => e_X10_drive_45_m37 (hK X1 hF ?_), fun z => ?_⟩)
  · rw [e34] at z
    have := Int32.le_iff_toInt_le.mp z
    have e0 : (0 : Int32).toInt = 0 := by decide
    rw [nI_toInt (by omega)] at this
    obtain rfl : l = 0 := by omega
    exact hc
  · have hlp : 0 < l := by
      rcases Nat.eq_zero_or_pos l with g | g
      · refine absurd ?_ z
        rw [e34, g, z0]
        exact Int32.le_iff_toInt_le.mpr (Int.le_refl _)
      · exact g
    have q := c_leg (K := K) (KX := KX) (i := 0) (bg := bg) (e := e) (w := w) hE hlp (fun X' hF' hc' => e_X10_drive_39_m37 (by
      rw [nI_1]
      exact c_legs hE hK (l - 1) 1 X' _ (by omega) hF' hc')) (xI X 36 0).toNatClampNeg 0 X1 (by omega) hF hc
    rw [z0] at q
    exact q
/-- the reference's legs -/
def mSH (k n : Nat) (f : Nat → Int32) (bg e z : Int32) (w : MtS) (X : AX) : Prop := mRep 4 k n f bg 1 1 w X ∧ xJ X 76 4 = e.toInt64 ∧ xI X 70 4 = 0 ∧ xI X 60 4 = z
theorem mSH_ps {z : Int32} {w' : MtS} (h : mSH k n f bg e z w X) (hP : PsF 4 X Y) (hm : mRep 4 k n f bg 1 1 w' Y) : mSH k n f bg e z w' Y := ⟨hm, by rw [hP.2.2.2.2.2.2.1 76 (by decide) (by decide)]; exact h.2.1, by rw [hP.2.2.2.1 70 (by decide) (by decide) (by decide) (by decide) (by decide) (by decide)]; exact h.2.2.1, by rw [hP.2.2.2.1 60 (by decide) (by decide) (by decide) (by decide) (by decide) (by decide)]; exact h.2.2.2⟩
/-- rows that the reference reads -/
def EnvM (X X1 : AX) (l : Nat) : Prop := xI X1 45 = xI X 45 ∧ xI X1 46 = xI X 46 ∧ xI X1 56 = xI X 56 ∧ xI X1 57 = xI X 57 ∧ xI X1 42 25 = nI l
theorem EnvM.tr (h : EnvM X X1 l) (hP : PsF 4 X1 Y) : EnvM X Y l := by
  obtain ⟨h1, h2, h3, h4, h5⟩ := h
  have p4 := hP.2.2.2.1
  exact ⟨(p4 45 (by decide) (by decide) (by decide) (by decide) (by decide) (by decide)).trans h1, (p4 46 (by decide) (by decide) (by decide) (by decide) (by decide) (by decide)).trans h2, (p4 56 (by decide) (by decide) (by decide) (by decide) (by decide) (by decide)).trans h3, (p4 57 (by decide) (by decide) (by decide) (by decide) (by decide) (by decide)).trans h4, (hP.2.2.2.2.1 25 (by decide) (by decide)).trans h5⟩
theorem m_leg {a0 a1 a2 a3 a4 z : Int32} (hE : EnvS X n k q d l) {i : Nat} (hi : i < l) (hK : ∀ X', AmF 4 Z X' → EnvM X X' l → mSH k n (xI X 46) bg e z (rpS (xI X 46) k q bg (xI X 35 i).toInt64 (xI X 36 i).toNatClampNeg w) X' → r_X12_should tb0 K KX 139 [some (vR (some 42)), some (vI a0), some (vI a1), some (vI a2), some (vI a3), some (vI a4), some (vI (nI i)), some (vI (xI X 36 i))] [] X' 0 0) : ∀ r j X1, j + r = (xI X 36 i).toNatClampNeg → AmF 4 Z X1 → EnvM X X1 l → mSH k n (xI X 46) bg e z (rpS (xI X 46) k q bg (xI X 35 i).toInt64 j w) X1 → r_X12_should tb0 K KX 107 [some (vR (some 42)), some (vI a0), some (vI a1), some (vI a2), some (vI a3), some (vI a4), some (vI (nI i)), some (vI (nI j))] [] X1 0 0 := by
  obtain ⟨⟨t1, t2, t3, t4, t5, t6, t7⟩, e2, e3, e4, e5, e6, e7, k1, k2, k3, k4, k5, k6⟩ := hE
  obtain ⟨s1, s2, s3, s4⟩ := k4 i hi
  have s2' := s2
  have s4' := s4
  unfold bnd at s2' s4'
  have cl := clp (x := xI X 36 i) (by omega)
  have ei : (nI i).toNatClampNeg = i := nI_clamp (by omega)
  have vi : vp_in (nI i) 20 := vp_in_nI (by omega) (by decide)
  have e36 : xI X 36 i = nI (xI X 36 i).toNatClampNeg := nI_ofI (by omega)
  have hte : bnd (1 : Int32) 1 200 := by unfold bnd; decide
  obtain ⟨⟨y1, y2, y3, y4⟩, y5⟩ := way1 s2'.1 s2'.2
  intro r
  induction r with
  | zero =>
    intro j X1 hj hF hM hc
    have hj' : j = (xI X 36 i).toNatClampNeg := by omega
    have x57 : xI X1 57 i = xI X 36 i := by rw [hM.2.2.2.1]; exact s3
    refine e_X12_should_107 ?_
    rw [ei]
    refine ⟨vi, fun _ => ?_, fun z => ?_⟩
    · rw [hj'] at hc ⊢
      rw [← e36]
      exact hK X1 hF hM hc
    · refine absurd ?_ z
      rw [x57, hj', ← e36]
      exact Int32.le_iff_toInt_le.mpr (Int.le_refl _)
  | succ r ih =>
    intro j X1 hj hF hM hc
    have x57 : xI X1 57 i = xI X 36 i := by rw [hM.2.2.2.1]; exact s3
    have x56 : xI X1 56 i = xI X 35 i := by rw [hM.2.2.1]; exact s1
    refine e_X12_should_107 ?_
    rw [ei]
    refine ⟨vi, fun z => ?_, fun _ => ⟨vi, ?_⟩⟩
    · rw [x57] at z
      have := Int32.le_iff_toInt_le.mp z
      rw [nI_toInt (by omega)] at this
      omega
    · rw [x56]
      refine s_passesX (c := 4) (k := k) (q := q) (f := xI X 46) (rd := 1) (te := 1) (bg := bg) (by decide) e4 e5 e3 (by rw [hM.1]; exact e7) (fun j _ => by rw [hM.2.1]) e6 hte (by rw [← y1]; exact y3) (by rw [← y1]; exact y4) y5 hc.1 (fun X' hT hc' => rI_in ?_)
      rw [nI_1]
      exact ih (j + 1) X' (by omega) (hF.trans (AmF.of_pass hT)) (hM.tr hT) (mSH_ps hc hT hc')
theorem m_legs {a0 a1 a2 a3 a4 z : Int32} (hE : EnvS X n k q d l) (hK : ∀ X' l7, AmF 4 Z X' → EnvM X X' l → mSH k n (xI X 46) bg e z (lgsS (xI X 46) k q bg (xI X 35) (xI X 36) l w) X' → r_X12_should tb0 K KX 145 [some (vR (some 42)), some (vI a0), some (vI a1), some (vI a2), some (vI a3), some (vI a4), some (vI (nI l)), some (vI l7)] [] X' 0 0) : ∀ r i X1 l7, i + r = l → AmF 4 Z X1 → EnvM X X1 l → mSH k n (xI X 46) bg e z (lgsS (xI X 46) k q bg (xI X 35) (xI X 36) i w) X1 → r_X12_should tb0 K KX 95 [some (vR (some 42)), some (vI a0), some (vI a1), some (vI a2), some (vI a3), some (vI a4), some (vI (nI i)), some (vI l7)] [] X1 0 0
  | 0, i, X1, l7, hi, hF, hM, hc => by
    obtain rfl : i = l := by omega
    refine e_X12_should_95b ⟨fun _ => hK X1 l7 hF hM hc, fun z => absurd ?_ z⟩
    rw [hM.2.2.2.2]
    exact Int32.le_iff_toInt_le.mpr (Int.le_refl _)
  | r + 1, i, X1, l7, hi, hF, hM, hc => by
    have hl := hE.2.2.2.2.2.2.2.2.2.1
    have z0 : nI 0 = (0 : Int32) := by decide
    refine e_X12_should_95b ⟨fun z => ?_, fun _ => ?_⟩
    · rw [hM.2.2.2.2] at z
      have := Int32.le_iff_toInt_le.mp z
      rw [nI_toInt (by omega), nI_toInt (by omega)] at this
      omega
    · rw [← z0]
      refine m_leg hE (by omega) (fun X' hF' hM' hc' => e_X12_should_139 ?_) (xI X 36 i).toNatClampNeg 0 X1 (by omega) hF hM hc
      rw [nI_1]
      exact m_legs hE hK r (i + 1) X' _ (by omega) hF' hM' hc'
theorem m_drive {a0 a1 a2 a3 a4 z : Int32} (hE : EnvS X n k q d l) (hc : mSH k n (xI X 46) bg e z w X1) (hF : AmF 4 Z X1) (hM : EnvM X X1 l) (hK : ∀ X', AmF 4 Z X' → EnvM X X' l → mSH k n (xI X 46) bg e z (lgsS (xI X 46) k q bg (xI X 35) (xI X 36) l w) X' → w_X12_ends tb0 [vR (some 42), vI 4, vI a2] X' (fun v2 X1 => rV v2 (((1 : Int32) = 0 ∨ (1 : Int32) = 1) ∧ (vp_in 4 5 ∧ (K (some (vL (xJ X1 75 (Int32.toNatClampNeg 4)))) (xS X1, u2 (xI X1) 42 17 1, xJ X1, xR X1, xN X1))))) KX) : r_X12_should tb0 K KX 95 [some (vR (some 42)), some (vI a0), some (vI a1), some (vI a2), some (vI a3), some (vI a4), some (vI 0), none] [] X1 0 0 := by
  have hl := hE.2.2.2.2.2.2.2.2.2.1
  have z0 : nI 0 = (0 : Int32) := by decide
  refine e_X12_should_95 ⟨fun zz => e_X12_should_145 (hK X1 hF hM ?_), fun zz => ?_⟩
  · rw [hM.2.2.2.2] at zz
    have := Int32.le_iff_toInt_le.mp zz
    have e0 : (0 : Int32).toInt = 0 := by decide
    rw [nI_toInt (by omega)] at this
    obtain rfl : l = 0 := by omega
    exact hc
  · have hlp : 0 < l := by
      rcases Nat.eq_zero_or_pos l with g | g
      · refine absurd ?_ zz
        rw [hM.2.2.2.2, g, z0]
        exact Int32.le_iff_toInt_le.mpr (Int.le_refl _)
      · exact g
    have q := m_leg (K := K) (KX := KX) (Z := Z) (i := 0) (bg := bg) (e := e) (w := w) (z := z) (a0 := a0) (a1 := a1) (a2 := a2) (a3 := a3) (a4 := a4) hE hlp (fun X' hF' hM' hc' => e_X12_should_139 (by
      rw [nI_1]
      exact m_legs hE (fun X'' l7 h1 h2 h3 => e_X12_should_145b (hK X'' h1 h2 h3)) (l - 1) 1 X' _ (by omega) hF' hM' hc')) (xI X 36 0).toNatClampNeg 0 X1 (by omega) hF hM hc
    rw [z0] at q
    exact q
set_option maxHeartbeats 2000000 in
/-- the relation behind it -/
theorem rel_should (H : Rel L xs t n s h l X) (hE : EnvS X n k q d l) {vv fr : Int64} {ov y78 : Int32} (hF : CmF 37 X X1) (hc : cSH d n (xI X 46) bg e w X1) (hA : AmF 4 (bw (xS X1, u2 (xI X1) 4 16 1, u2 (xJ X1) 37 6 fr, xR X1, xN X1) vv) Z) (hm : mRep 4 k n (xI X 46) bg 1 1 w Z) (hst : bnd (mT w) 0 2000000) (hY : AmF 4 Z Y) (y67 : xI Y 67 4 = xI Z 67 4) (y72 : xI Y 72 4 = xI Z 72 4) (y73 : xI Y 73 4 = xI Z 73 4) (y85 : xJ Y 85 = xJ Z 85) (y86 : xJ Y 86 = xJ Z 86) : Rel L xs (t + 1) n s h l (xS Y, u2 (xI Y) 42 17 1, xJ Y, xR Y, xN Y) ∧ xI Y 42 0 = 0 ∧ xJ Y 91 0 = vv := by
  obtain ⟨⟨r2, r3, r4, r5, r6, r7, r8, rt, rQ, T, B, rP, rB, rT⟩, e9, e12⟩ := hc
  obtain ⟨m62, m66, m65, m64, m59, m74, m75, m67, m68, mQ, np, hp8, m73, mg, mN, mM, mD, mI⟩ := hm
  have hW := hA.trans hY
  have cF : CmF 37 X (xS X1, xI X1, u2 (xJ X1) 37 6 fr, xR X1, xN X1) := ⟨hF.1, hF.2.1, hF.2.2.1, hF.2.2.2.1, fun i hi => by
    show u2 (xJ X1) 37 6 fr i = _
    rw [u2_ne _ _ _ hi]; exact hF.2.2.2.2 i hi⟩
  obtain ⟨b1, b2, b3, b4, b5, b6, b7, b8, b9, b10, b11, b12⟩ := id hW
  have k4 : ∀ i, 37 ≤ i → i ≤ 40 → xI Y i = xI X1 i := fun i p q => by
    rw [b4 i (by omega) (by omega)]
    show u2 (u2 (xI X1) 4 16 1) 42 0 0 i = _
    rw [u2_ne _ _ _ (by omega), u2_ne _ _ _ (by omega)]
  have y4 : xI Y 4 16 = 1 := by
    rw [b4 4 (by decide) (by decide)]
    show u2 (xI X1) 4 16 1 4 16 = 1
    rw [u2_at, if_pos rfl]
  obtain ⟨hM0, hM⟩ := dM_lt hE.2.2.2.2.2.1 hE.2.2.2.2.1 (te := 1) (by unfold bnd; decide)
  have hTB : 0 ≤ T ∧ T < B := by
    obtain ⟨_, _, _, _, _, _, _, _, _, z1, z2, _⟩ := rP
    exact ⟨z1, z2⟩
  have cOv' : cOv 4 (xS Y, u2 (xI Y) 42 17 1, xJ Y, xR Y, xN Y) = cOv 4 Z := by
    unfold cOv
    show (fun k => xJ Y 85 (80 * 4 + k)) = _
    rw [y85]
  have cUn' : cUn 4 (xS Y, u2 (xI Y) 42 17 1, xJ Y, xR Y, xN Y) = cUn 4 Z := by
    unfold cUn
    show (fun k => xJ Y 86 (80 * 4 + k)) = _
    rw [y86]
  have fr' : FrA 37 4 X (xS Y, u2 (xI Y) 42 17 1, xJ Y, xR Y, xN Y) := by
    obtain ⟨a1, a2, a3, a4, a5⟩ := cF
    have ee : ∀ i, (i < 37 ∨ 41 < i) → i ≠ 4 → i ≠ 42 → xI (bw (xS X1, u2 (xI X1) 4 16 1, u2 (xJ X1) 37 6 fr, xR X1, xN X1) vv) i = xI X i := fun i p q r => by
      show u2 (u2 (xI X1) 4 16 1) 42 0 0 i = _
      rw [u2_ne _ _ _ r, u2_ne _ _ _ q]; exact a4 i p
    have gg : ∀ i, i ≠ 37 → i ≠ 91 → xJ (bw (xS X1, u2 (xI X1) 4 16 1, u2 (xJ X1) 37 6 fr, xR X1, xN X1) vv) i = xJ X i := fun i p q => by
      show u2 (u2 (xJ X1) 37 6 fr) 91 0 vv i = _
      rw [u2_ne _ _ _ q]; exact a5 i p
    refine ⟨b1.trans a1, b3.trans a2, fun i p => by rw [show xR (xS Y, u2 (xI Y) 42 17 1, xJ Y, xR Y, xN Y) = xR Y from rfl, b2]; exact a3 i p, fun i p q r w' => ?_, fun j p => ?_, fun j p q r w' => ?_, fun i j p q r => ?_, fun j p => (b7 j p).trans (by rw [ee 81 (by decide) (by decide) (by decide)]), fun j p => (b8 j p).trans (by rw [ee 82 (by decide) (by decide) (by decide)]), fun j p => ⟨(b9 j p).1.trans (by rw [ee 83 (by decide) (by decide) (by decide)]), (b9 j p).2.trans (by rw [ee 84 (by decide) (by decide) (by decide)])⟩, fun i p q r w' => (b10 i r w').trans (gg i p q), fun i j p q r => (b11 i j q r).trans (by rw [gg i p (by omega)]), fun j p => ⟨(b12 j p).1.trans (by rw [gg 85 (by decide) (by decide)]), (b12 j p).2.trans (by rw [gg 86 (by decide) (by decide)])⟩⟩
    · show u2 (xI Y) 42 17 1 i = _
      rw [u2_ne _ _ _ r, b4 i r w', ee i p q r]
    · show xI Y 4 j = _
      rw [b4 4 (by decide) (by decide)]
      show u2 (xI X1) 4 16 1 4 j = _
      rw [u2_at, if_neg p, a4 4 (by decide)]
    · show u2 (xI Y) 42 17 1 42 j = _
      rw [u2_at, if_neg q, b5 j r w']
      show u2 (u2 (xI X1) 4 16 1) 42 0 0 42 j = _
      rw [u2_at, if_neg p, u2_ne _ _ _ (by decide), a4 42 (by decide)]
    · show u2 (xI Y) 42 17 1 i j = _
      rw [u2_ne _ _ _ (by omega), b6 i j p q r, ee i (by omega) (by omega) (by omega)]
  refine ⟨rel_am (m := 37) (c := 4) H (by decide) (by decide) fr' ⟨y4.symm, Or.inr y4, fun _ => ⟨?_, T, B, ?_, ?_, np, hp8, ?_, ?_, ?_, ?_⟩⟩ (Or.inr rfl), ?_, ?_⟩
  · show xI Y 67 4 = xI Y 37 7 ∧ bnd (xI Y 37 7) 0 2000000
    rw [y67, m67, k4 37 (by decide) (by decide), r7]
    exact ⟨rfl, hst⟩
  · exact Pt_tr (X := X1) (p := 38) (p' := 38) (congrFun (k4 38 (by decide) (by decide)) 3) (fun j _ => ⟨congrFun (k4 39 (by decide) (by decide)) j, congrFun (k4 40 (by decide) (by decide)) j⟩) rP
  · have z1 : B ≤ (1 : Int32).toInt * dPrd (xI X 46) n := Int.le_of_dvd hM0 rB
    exact lt600 (Nat.lt_of_le_of_lt (Int.toNat_le_toNat z1) hM)
  · show xI Y 73 4 = nI np
    rw [y73]; exact m73
  · rw [cOv', cUn']; exact mg
  · rw [cOv', cUn', show xI (xS Y, u2 (xI Y) 42 17 1, xJ Y, xR Y, xN Y) 72 4 = xI Z 72 4 from y72]
    have e1 : fN' (cOv 4 Z) (cUn 4 Z) np * B * mB w = ((xI Z 72 4).toInt * B + T) * fD (cUn 4 Z) np * mB w := by
      have a1 : fN' (cOv 4 Z) (cUn 4 Z) np * B * mB w = fN' (cOv 4 Z) (cUn 4 Z) np * mB w * B := by grind
      have a2 : ((xI Z 72 4).toInt * B + T) * fD (cUn 4 Z) np * mB w = ((xI Z 72 4).toInt * B * mB w + T * mB w) * fD (cUn 4 Z) np := by grind
      rw [a1, a2, mN, rT]
      grind
    exact Int.eq_of_mul_eq_mul_right (by omega) e1
  · rw [show xI (xS Y, u2 (xI Y) 42 17 1, xJ Y, xR Y, xN Y) 72 4 = xI Z 72 4 from y72]; exact mM
  · rw [b5 0 (by decide) (by decide)]; try rfl
  · rw [b10 91 (by decide) (by decide)]; try rfl
set_option maxHeartbeats 4000000 in
theorem op_should {a0 a1 a2 a3 a4 : Int32} (ht : t < 600) (H : Rel L xs t n s h l X) (hK : ∀ c X1, SamS X X1 → (∀ K2 KX2, (∀ b X4, FinL L xs t c b X4 → K2 (some (vL b)) X4) → w_X12_should tb0 [vR (some 42), vI a0, vI a1, vI a2, vI a3, vI a4] X1 K2 KX2) → K (some (vI c)) X1) : w_L_should tb0 [vR (some 4), vI a0, vI a1, vI a2, vI a3, vI a4, vR (some 91)] X K KX := by
  obtain ⟨hS, hW, hR, hT, hL, hE, hKk, hH, hC, hG⟩ := id H
  have hslf : 0 ≤ a0.toInt → a0.toInt < 12 → xI X 47 a0.toNatClampNeg = xI X 9 a0.toNatClampNeg ∧ xI X 48 a0.toNatClampNeg = xI X 10 a0.toNatClampNeg ∧ bnd (xI X 9 a0.toNatClampNeg) 0 2 := fun q1 q2 => by
    have := clp q1
    obtain ⟨e1, e2, e3, -⟩ := hL a0.toNatClampNeg (by omega)
    exact ⟨e1, e2, e3⟩
  have e0 : (0 : Int32).toInt = 0 := by decide
  have e12 : (12 : Int32).toInt = 12 := by decide
  have e99 : (99 : Int32).toInt = 99 := by decide
  have z4 : nI 4 = (4 : Int32) := by decide
  by_cases hin : (0 ≤ a0.toInt ∧ a0.toInt < 12 ∧ (0 ≤ a1.toInt ∧ a1.toInt ≤ 99 ∧ 0 ≤ a3.toInt ∧ a3.toInt ≤ 1439 ∧ 0 ≤ a4.toInt ∧ a4.toInt ≤ 59) ∧ 0 ≤ a2.toInt ∧ a2.toInt ≤ 99) ∧ (xI X 9 a0.toNatClampNeg).toInt = 1
  · obtain ⟨⟨h0, h12, hbeg, h20, h29⟩, h9⟩ := hin
    obtain ⟨s1, s2, s3⟩ := hslf h0 h12
    refine i_L_should (i_X11_should (s_demandPlace (fun _ _ => rV_in (s_demandBeginning (fun _ => rV_in (s_isFrom (fun _ _ => rI_in (s_demand1 (rV_in (s_tariffHeld (n := n) (s := s) hT hL h0 h12 (fun d z1 hbn hd => rR_in ?_) (fun z => absurd (h9.symm.trans z) (by decide)) (fun z => absurd (h9.symm.trans z) (by decide)))))) (fun z => absurd ⟨by omega, by omega⟩ z))) (fun z => absurd hbeg z))) (fun z => absurd ⟨h0, by omega⟩ z)))
    have hbn' := hbn
    unfold bnd at hbn'
    have ck := clp hbn'.1
    have hn12 := hT.2.2.1
    generalize hkk : (xI X 10 a0.toNatClampNeg).toNatClampNeg = k at hd ck
    obtain ⟨t1, t2, t3, ⟨q, tq1, tq2, tq3⟩, t5, t6, t7⟩ := id hd
    have hEn : EnvS X n k q d l := ⟨hd, tq3, tq1, by omega, hn12, num_of hT, tq2, hKk⟩
    have e48 : xI X 48 a0.toNatClampNeg = nI k := by rw [s2, ← hkk]; exact nI_ofI hbn'.1
    refine s_start_37 (S := xS X) (F := xI X) (J := xJ X) (R := xR X) (nn := xN X) (q := q) (k := k) t2 tq3 t5 tq1 (by omega) t6 (fun X0 hStd => rV_in ?_)
    obtain ⟨rs1, rs2, rs3, rs4⟩ := rep_start (X := X) (n := n) (f := xI X 46) (k := k) (rd := 1) (fun j hj => (t7 j hj).1) hStd
    refine c_drive (w := st0 (xI X 46) k q) (bg := a3 * 60 + a4) (e := eOf q (xI X 46 (15 * k + 14))) hEn ⟨rs1, rs2, rs3⟩ (CmF.of_start hStd) (fun X1 hF hc => rV_in ?_)
    have rX : ∀ i, (i < 37 ∨ 41 < i) → xI X1 i = xI X i := hF.2.2.2.1
    have hstp : bnd (mT (lgsS (xI X 46) k q (a3 * 60 + a4) (xI X 35) (xI X 36) l (st0 (xI X 46) k q))) 0 2000000 := by
      obtain ⟨-, -, b3, b4⟩ := lgsS_st (q := q) (bg := a3 * 60 + a4) (w := st0 (xI X 46) k q) hEn.2.2.2.2.2.1 hEn.2.2.2.1 hKk (Int.le_refl _) (show (0 : Int) < 1 by decide) (show (0 : Int32).toInt = 0 by decide) l (Nat.le_refl _)
      obtain ⟨m1, m2⟩ := sum_mono hKk l (Nat.le_refl _)
      have k5 := hKk.2.2.2.2.1
      have k6 := hKk.2.2.2.2.2
      unfold bnd
      omega
    have hmain : ∀ fr : Int64, (fr = (xI X 46 (15 * k + 13)).toInt64 + (eOf q (xI X 46 (15 * k + 14))).toInt64 ∧ flatP (xI X 46) k q a1 a2 ∨ fr = mFr (lgsS (xI X 46) k q (a3 * 60 + a4) (xI X 35) (xI X 36) l (st0 (xI X 46) k q)) ∧ ¬ flatP (xI X 46) k q a1 a2) → ((1 : Int32) = 0 ∨ (1 : Int32) = 1) ∧ (rL (some (vL fr)) fun y3 => vp_in 0 1 ∧ (r_L_should tb0 K 30 [some (vR (some 4)), some (vI a0), some (vI a1), some (vI a2), some (vI a3), some (vI a4), some (vR (some 91)), none] [] (xS X1, u2 (xI X1) 4 16 1, u2 (u2 (xJ X1) 37 6 fr) 91 (Int32.toNatClampNeg 0) y3, xR X1, xN X1) 5 30)) := by
      intro fr hfr
      refine ⟨Or.inr rfl, rL_in ⟨by unfold vp_in; decide, e_L_should_30 (hK 0 _ (SamS.mk (congrFun hF.1 0) ?_) (fun K2 KX2 hK2 => ?_))⟩⟩
      · show u2 (xI X1) 4 16 1 0 = _
        rw [u2_ne _ _ _ (by decide)]; exact rX 0 (by decide)
      · have rW : ∀ i, (i < 37 ∨ 41 < i) → i ≠ 4 → i ≠ 42 → xI (bw (xS X1, u2 (xI X1) 4 16 1, u2 (xJ X1) 37 6 fr, xR X1, xN X1) fr) i = xI X i := fun i p q r => by
          show u2 (u2 (xI X1) 4 16 1) 42 0 0 i = _
          rw [u2_ne _ _ _ r, u2_ne _ _ _ q]; exact rX i p
        have rW42 : ∀ j, j ≠ 0 → xI (bw (xS X1, u2 (xI X1) 4 16 1, u2 (xJ X1) 37 6 fr, xR X1, xN X1) fr) 42 j = xI X 42 j := fun j p => by
          show u2 (u2 (xI X1) 4 16 1) 42 0 0 42 j = _
          rw [u2_at, if_neg p, u2_ne _ _ _ (by decide), rX 42 (by decide)]
        have y47 : xI (bw (xS X1, u2 (xI X1) 4 16 1, u2 (xJ X1) 37 6 fr, xR X1, xN X1) fr) 47 a0.toNatClampNeg = xI X 9 a0.toNatClampNeg := by rw [rW 47 (by decide) (by decide) (by decide)]; exact s1
        refine i_X12_should (s_isSlot1 h0 h12 (rI_in ⟨fun z => absurd z (by decide), fun _ => s_isBeginning (by decide) (fun _ => rI_in ⟨fun z => absurd z (by decide), fun _ => ⟨fun z => ?_, fun _ => ⟨fun z => ?_, fun _ => e_X12_should_43 (s_right1 (rI_in ⟨fun z => absurd z (by decide), fun _ => s_isHeld h0 h12 (by decide) (by decide) ?_ (fun _ => rI_in ⟨fun _ => e_X12_should_62 ⟨vp_in_iff.mpr ⟨h0, h12⟩, ?_⟩, fun z => absurd z (by decide)⟩) (fun z => absurd z ?_) (fun z => absurd z ?_)⟩))⟩⟩⟩) (fun z => absurd hbeg z)⟩))
        · have := Int32.lt_iff_toInt_lt.mp z
          omega
        · have := Int32.lt_iff_toInt_lt.mp z
          omega
        · rw [show xI (xS X1, u2 (xI X1) 4 16 1, u2 (u2 (xJ X1) 37 6 fr) 91 (Int32.toNatClampNeg 0) fr, xR X1, xN X1) 47 a0.toNatClampNeg = xI X 9 a0.toNatClampNeg from y47]; exact s3
        · rw [show xI (xS X1, u2 (u2 (xI X1) 4 16 1) 42 0 0, u2 (u2 (xJ X1) 37 6 fr) 91 (Int32.toNatClampNeg 0) fr, xR X1, xN X1) 48 a0.toNatClampNeg = nI k from (congrFun (rW 48 (by decide) (by decide) (by decide)) _).trans e48]
          have qb := s_begins2 (S := xS X1) (F := u2 (u2 (xI X1) 4 16 1) 42 0 0) (J := u2 (u2 (xJ X1) 37 6 fr) 91 0 fr) (R := xR X1) (nn := xN X1) (c := 4) (k := k) (q := q) (zone := a1) (mi := a3) (se := a4) (K := fun v2 X1 => rV v2 (vp_in 4 5 ∧ (vp_in 4 5 ∧ (r_X12_should tb0 K2 KX2 95 [some (vR (some 42)), some (vI a0), some (vI a1), some (vI a2), some (vI a3), some (vI a4), some (vI 0), none] [] (xS X1, u2 (u2 (xI X1) 65 (Int32.toNatClampNeg 4) 1) 66 (Int32.toNatClampNeg 4) 1, xJ X1, xR X1, xN X1) 0 0)))) (KX := KX2) (by decide) (by omega) tq1 (by rw [show (u2 (u2 (xI X1) 4 16 1) 42 0 0) 45 = xI X 45 from rW 45 (by decide) (by decide) (by decide)]; exact tq2) (fun X3 hB => rV_in ⟨by unfold vp_in; decide, by unfold vp_in; decide, ?_⟩)
          · rw [z4] at qb
            exact qb
          · have tt : (60 : Int32) * a3 + a4 = a3 * 60 + a4 := by rw [Int32.mul_comm]
            rw [tt] at hB
            obtain ⟨rb1, rb2, rb3, rb4, rb5, rb6⟩ := rep_begins (n := n) (f := xI X 46) (fun j _ => by rw [show xI (xS X1, u2 (u2 (xI X1) 4 16 1) 42 0 0, u2 (u2 (xJ X1) 37 6 fr) 91 0 fr, xR X1, xN X1) 46 = xI X 46 from rW 46 (by decide) (by decide) (by decide)]) hB rfl rfl
            have hA0 := AmF.of_begins hB
            have hA1 : AmF 4 (bw (xS X1, u2 (xI X1) 4 16 1, u2 (xJ X1) 37 6 fr, xR X1, xN X1) fr) (xS X3, u2 (u2 (xI X3) 65 4 1) 66 4 1, xJ X3, xR X3, xN X3) := by
              obtain ⟨b1, b2, b3, b4, b5, b6, b7, b8, b9, b10, b11, b12⟩ := hA0
              refine ⟨b1, b2, b3, fun i p q => ?_, fun j p q => ?_, fun i j p q r => ?_, b7, b8, b9, b10, b11, b12⟩
              · show u2 (u2 (xI X3) 65 4 1) 66 4 1 i = _
                rw [u2_ne _ _ _ (by omega), u2_ne _ _ _ (by omega)]; exact b4 i p q
              · exact b5 j p q
              · show u2 (u2 (xI X3) 65 4 1) 66 4 1 i j = _
                rw [u2_nj r, u2_nj r]; exact b6 i j p q r
            have rb1' : mRep 4 k n (xI X 46) (a3 * 60 + a4) 1 1 (st0 (xI X 46) k q) (xS X3, u2 (u2 (xI X3) 65 4 1) 66 4 1, xJ X3, xR X3, xN X3) := by
              obtain ⟨m62, m66, m65, m64, m59, m74, m75, m67, m68, mQ, np, hp8, m73, mg, mN, mM, mD, mI⟩ := rb1
              obtain ⟨-, -, -, -, -, -, -, -, -, -, -, -, -, -, -, -, -, -, -, -, -, d73, -⟩ := id hB
              have np0 : np = 0 := by
                have z0 : nI 0 = (0 : Int32) := by decide
                exact (nI_eq (by omega) (by decide)).mp (m73.symm.trans (d73.trans z0.symm))
              subst np0
              exact ⟨m62, rfl, rfl, m64, m59, m74, m75, m67, m68, mQ, 0, hp8, m73, mg, mN, mM, fun i hi => absurd hi (Nat.not_lt_zero _), mI⟩
            have hM1 : EnvM X (xS X3, u2 (u2 (xI X3) 65 4 1) 66 4 1, xJ X3, xR X3, xN X3) l := by
              obtain ⟨b1, b2, b3, b4, b5, -⟩ := hA0
              refine ⟨(b4 45 (by decide) (by decide)).trans (rW 45 (by decide) (by decide) (by decide)), (b4 46 (by decide) (by decide)).trans (rW 46 (by decide) (by decide) (by decide)), (b4 56 (by decide) (by decide)).trans (rW 56 (by decide) (by decide) (by decide)), (b4 57 (by decide) (by decide)).trans (rW 57 (by decide) (by decide) (by decide)), ?_⟩
              exact ((b5 25 (by decide) (by decide)).trans (rW42 25 (by decide))).trans hKk.2.1
            refine m_drive (w := st0 (xI X 46) k q) (bg := a3 * 60 + a4) (e := eOf q (xI X 46 (15 * k + 14))) (z := a1) (Z := bw (xS X1, u2 (xI X1) 4 16 1, u2 (xJ X1) 37 6 fr, xR X1, xN X1) fr) hEn ⟨rb1', rb2, rb3, rb6⟩ hA1 hM1 (fun Z hA hMz hm => ?_)
            have qe := s_ends (S := xS Z) (F := xI Z) (J := xJ Z) (R := xR Z) (nn := xN Z) (c := 4) (k := k) (q := q) (f := xI X 46) (a1 := a2) (K := fun v2 X1 => rV v2 (((1 : Int32) = 0 ∨ (1 : Int32) = 1) ∧ (vp_in 4 5 ∧ (K2 (some (vL (xJ X1 75 (Int32.toNatClampNeg 4)))) (xS X1, u2 (xI X1) 42 17 1, xJ X1, xR X1, xN X1))))) (KX := KX2) (by decide) (by omega) tq1 hm.1.2.2.2.1 (by rw [hMz.1]; exact tq2) (fun j _ => by rw [hMz.2.1]) (by rw [hm.2.2.1]; decide) (fun z1 z2 => rV_in ⟨Or.inr rfl, by unfold vp_in; decide, hK2 _ _ ?_⟩) (fun z => rV_in ⟨Or.inr rfl, by unfold vp_in; decide, hK2 _ _ ?_⟩)
            · rw [z4] at qe
              exact qe
            · have z2' : flatP (xI X 46) k q a1 a2 := by rw [← hm.2.2.2]; exact z2
              have efr : fr = (xI X 46 (15 * k + 13)).toInt64 + xJ Z 76 4 := by
                rcases hfr with ⟨y1, -⟩ | ⟨-, y2⟩
                · rw [y1, hm.2.1]
                · exact absurd z2' y2
              have hY : AmF 4 Z (xS Z, u2 (u2 (u2 (xI Z) 61 4 a2) 78 4 0) 79 4 1, u2 (xJ Z) 75 4 ((xI X 46 (15 * k + 13)).toInt64 + xJ Z 76 4), xR Z, xN Z) := by
                refine ⟨rfl, rfl, rfl, fun i p q => ?_, fun j p q => rfl, fun i j p q r => ?_, fun j p => rfl, fun j p => rfl, fun j p => ⟨rfl, rfl⟩, fun i p q => ?_, fun i j p q => ?_, fun j p => ⟨rfl, rfl⟩⟩
                · show u2 (u2 (u2 (xI Z) 61 4 a2) 78 4 0) 79 4 1 i = _
                  rw [u2_ne _ _ _ (by omega), u2_ne _ _ _ (by omega), u2_ne _ _ _ (by omega)]
                · show u2 (u2 (u2 (xI Z) 61 4 a2) 78 4 0) 79 4 1 i j = _
                  rw [u2_nj r, u2_nj r, u2_nj r]
                · show u2 (xJ Z) 75 4 _ i = _
                  rw [u2_ne _ _ _ (by omega)]
                · show u2 (xJ Z) 75 4 _ i j = _
                  rw [u2_nj q]
              obtain ⟨R1, R2, R3⟩ := rel_should (ov := a2) (y78 := 0) H hEn hF hc hA hm.1 hstp hY rfl rfl rfl rfl rfl
              refine ⟨⟨n, s, h, l, R1⟩, R2, fun _ => R3.trans ?_⟩
              show fr = u2 (xJ Z) 75 4 _ 75 4
              rw [u2_at, if_pos rfl]; exact efr
            · have hY : AmF 4 Z (xS Z, u2 (u2 (xI Z) 61 4 a2) 78 4 0, xJ Z, xR Z, xN Z) := by
                refine ⟨rfl, rfl, rfl, fun i p q => ?_, fun j p q => rfl, fun i j p q r => ?_, fun j p => rfl, fun j p => rfl, fun j p => ⟨rfl, rfl⟩, fun i p q => rfl, fun i j p q => rfl, fun j p => ⟨rfl, rfl⟩⟩
                · show u2 (u2 (xI Z) 61 4 a2) 78 4 0 i = _
                  rw [u2_ne _ _ _ (by omega), u2_ne _ _ _ (by omega)]
                · show u2 (u2 (xI Z) 61 4 a2) 78 4 0 i j = _
                  rw [u2_nj r, u2_nj r]
              obtain ⟨R1, R2, R3⟩ := rel_should (ov := a2) (y78 := 0) H hEn hF hc hA hm.1 hstp hY rfl rfl rfl rfl rfl
              refine ⟨⟨n, s, h, l, R1⟩, R2, fun _ => R3.trans ?_⟩
              show fr = xJ Z 75 4
              rw [hm.1.2.2.2.2.2.2.1]
              rcases hfr with ⟨-, y2⟩ | ⟨y1, -⟩
              · exact absurd ⟨hm.2.2.1, by rw [hm.2.2.2]; exact y2⟩ z
              · exact y1
        · show ¬ ((u2 (xI X1) 4 16 1) 47 a0.toNatClampNeg).toInt = 0
          rw [show (u2 (xI X1) 4 16 1) 47 a0.toNatClampNeg = xI X 9 a0.toNatClampNeg from y47]; omega
        · show ¬ ((u2 (xI X1) 4 16 1) 47 a0.toNatClampNeg).toInt = 2
          rw [show (u2 (xI X1) 4 16 1) 47 a0.toNatClampNeg = xI X 9 a0.toNatClampNeg from y47]; omega
    refine s_finish_37 (S := xS X1) (F := xI X1) (J := xJ X1) (R := xR X1) (nn := xN X1) (d := d) (q := q) (k := k) (f := xI X 46) t2 (by rw [hF.1]; exact tq3) (by rw [hF.1]; exact t5) tq1 hc.1.2.2.2.2.2.2.2.1 (fun j hj => by rw [rX (d + 1) (by omega)]; exact (t7 j hj).1) (fun z1 z2 => rI_in ?_) (fun z => rI_in ?_)
    · have := hmain ((xI X 46 (15 * k + 13)).toInt64 + (xI X1 37 9).toInt64) (Or.inl ⟨by rw [hc.2.1], z2⟩)
      exact this
    · have := hmain (xJ X1 37 6) (Or.inr ⟨hc.1.2.2.2.2.1, fun y => z ⟨hc.2.2, y⟩⟩)
      rw [u2_slf] at this
      exact this
  · have hsx : 0 ≤ a0.toInt → a0.toInt < 12 → (xI X 47 a0.toNatClampNeg).toInt = (xI X 9 a0.toNatClampNeg).toInt ∧ 0 ≤ (xI X 47 a0.toNatClampNeg).toInt ∧ (xI X 47 a0.toNatClampNeg).toInt ≤ 2 := fun q1 q2 => by
      obtain ⟨e1, e2, e3⟩ := hslf q1 q2
      rw [e1]; exact ⟨rfl, e3⟩
    have hsy := hsx
    clear e0 e12 e99
    simp only [Int32.lt_iff_toInt_lt, Int32.le_iff_toInt_le, ← Int32.toInt_inj, u2_ap, reduceIte, Nat.reduceEqDiff, xI, xJ, xR, xS, xN, li_0, li_1, li_2, li_3, li_4, li_5, li_6, li_7, li_8, li_9, li_10, li_11, li_12, li_13, li_14, li_15, li_16, li_20, li_34, li_40, li_50, li_59, li_60, li_64, li_99, li_100, li_200, li_500, li_1439, li_1440, li_3840, li_4000, li_10000, li_60000, li_1000000, li_m1, li_min, ck_0, ck_1, ck_2, ck_3, ck_4] at hin hsx
    repeat' (first
      | with_reducible refine i_L_should ?_
      | with_reducible refine e_L_should_30 ?_
      | with_reducible refine e_L_should_28 ?_
      | with_reducible refine e_L_should_24 ?_
      | with_reducible refine e_L_should_20 ?_
      | with_reducible refine i_X11_should ?_
      | with_reducible refine i_X12_should ?_
      | with_reducible refine e_X12_should_60 ?_
      | with_reducible refine e_X12_should_42 ?_
      | with_reducible refine e_X12_should_43 ?_
      | with_reducible refine i_X12_isSlot ?_
      | with_reducible refine e_X12_isSlot_15 ?_
      | with_reducible refine e_X12_isSlot_16 ?_
      | with_reducible refine s_demandBeginning ?_ ?_
      | ((with_reducible refine s_tariffHeld (n := n) (s := s) hT hL ?_ ?_ ?_ ?_ ?_); (· omega); (· omega))
      | ((with_reducible refine s_isBeginning ?_ ?_ ?_); (· decide))
      | ((with_reducible refine s_isHeld ?_ ?_ ?_ ?_ ?_ ?_ ?_ ?_); (· omega); (· omega); (· decide); (· decide); (· exact (hsy (by omega) (by omega)).2))
      | with_reducible refine s_isFrom ?_ ?_
      | with_reducible refine s_demand1 ?_
      | with_reducible refine s_demand0 ?_
      | with_reducible refine s_demandSuch1 ?_
      | with_reducible refine s_demandSuch0 ?_
      | with_reducible refine s_demandState1 ?_
      | with_reducible refine s_demandState0 ?_
      | with_reducible refine s_demandPlace ?_ ?_
      | with_reducible refine s_refuse ?_ ?_
      | (with_reducible refine s_hired ?hb ?_ ?_; case hb => assumption)
      | with_reducible refine s_right1 ?_
      | with_reducible refine s_right0 (by decide) ?_
      | with_reducible refine s_thrown ?_
      | with_reducible refine rI_in ?_
      | with_reducible refine rV_in ?_
      | with_reducible refine rL_in ?_
      | with_reducible refine rR_in ?_
      | with_reducible refine ite_t rfl ?_
      | with_reducible refine ite_f (by decide) ?_
      | with_reducible refine gd_in (by decide) ?_
      | with_reducible refine or0_and ?_
      | with_reducible refine or1_and ?_
      | with_reducible refine br_t (by decide) ?_
      | with_reducible refine br_f (by decide) ?_
      | with_reducible refine br_t2 (by decide) ?_
      | with_reducible refine br_f2 (by decide) ?_
      | (with_reducible refine vin_and ?hv ?_; case hv => first | omega | (simp only [Int32.lt_iff_toInt_lt, Int32.le_iff_toInt_le, ← Int32.toInt_inj, u2_ap, reduceIte, Nat.reduceEqDiff, xI, xJ, xR, xS, xN, li_0, li_1, li_2, li_3, li_4, li_5, li_6, li_7, li_8, li_9, li_10, li_11, li_12, li_13, li_14, li_15, li_16, li_20, li_34, li_40, li_50, li_59, li_60, li_64, li_99, li_100, li_200, li_500, li_1439, li_1440, li_3840, li_4000, li_10000, li_60000, li_1000000, li_m1, li_min, ck_0, ck_1, ck_2, ck_3, ck_4] at * <;> omega))
      | (with_reducible refine ne_and ?hv ?_; case hv => decide)
      | (refine hK _ _ (SamS.mk rfl rfl) (fun K2 KX2 hK2 => ?_); try dsimp only [xI, xJ, xR, xS, xN])
      | (with_reducible refine hK2 _ _ ?_; try dsimp only [xI, xJ, xR, xS, xN])
      | exact fin_thr H (by assumption) _ (by decide)
      | exact finL_thr H (by assumption) _ (by decide)
      | exact finB_thr H (by assumption) (by decide)
      | ((with_reducible refine br_s (fun c => ?_) (fun c => ?_)) <;> (try simp only [Int32.lt_iff_toInt_lt, Int32.le_iff_toInt_le, ← Int32.toInt_inj, u2_ap, reduceIte, Nat.reduceEqDiff, xI, xJ, xR, xS, xN, li_0, li_1, li_2, li_3, li_4, li_5, li_6, li_7, li_8, li_9, li_10, li_11, li_12, li_13, li_14, li_15, li_16, li_20, li_34, li_40, li_50, li_59, li_60, li_64, li_99, li_100, li_200, li_500, li_1439, li_1440, li_3840, li_4000, li_10000, li_60000, li_1000000, li_m1, li_min, ck_0, ck_1, ck_2, ck_3, ck_4] at c) <;> (try (exfalso; omega)))
      | ((with_reducible refine br_s2 (fun c => ?_) (fun c => ?_)) <;> (try simp only [Int32.lt_iff_toInt_lt, Int32.le_iff_toInt_le, ← Int32.toInt_inj, u2_ap, reduceIte, Nat.reduceEqDiff, xI, xJ, xR, xS, xN, li_0, li_1, li_2, li_3, li_4, li_5, li_6, li_7, li_8, li_9, li_10, li_11, li_12, li_13, li_14, li_15, li_16, li_20, li_34, li_40, li_50, li_59, li_60, li_64, li_99, li_100, li_200, li_500, li_1439, li_1440, li_3840, li_4000, li_10000, li_60000, li_1000000, li_m1, li_min, ck_0, ck_1, ck_2, ck_3, ck_4] at c) <;> (try (exfalso; omega)))
      | ((with_reducible intro c); (try simp only [Int32.lt_iff_toInt_lt, Int32.le_iff_toInt_le, ← Int32.toInt_inj, u2_ap, reduceIte, Nat.reduceEqDiff, xI, xJ, xR, xS, xN, li_0, li_1, li_2, li_3, li_4, li_5, li_6, li_7, li_8, li_9, li_10, li_11, li_12, li_13, li_14, li_15, li_16, li_20, li_34, li_40, li_50, li_59, li_60, li_64, li_99, li_100, li_200, li_500, li_1439, li_1440, li_3840, li_4000, li_10000, li_60000, li_1000000, li_m1, li_min, ck_0, ck_1, ck_2, ck_3, ck_4] at c) <;> (try (exfalso; omega))))
end Ops
