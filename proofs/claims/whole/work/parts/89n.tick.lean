/-! the class's second -/
section Tick
variable {S : Nat → Nat × Nat} {F : Nat → Nat → Int32} {J : Nat → Nat → Int64} {R : Nat → Nat → Option Nat} {nn : Nat} {X : AX} {K : Option AV → AX → Prop} {KX : String → AX → Prop} {f : Nat → Int32} {k q n d : Nat} {bg te rd a : Int32} {s : MtS} {p w : Int64}
theorem onS_eq {r : Option Nat} {i : Nat} {f : Nat → Prop} (e : r = some i) (h : f i) : onSome r f := by rw [e]; exact h
/-- the class's cells of a meter -/
def cRep (m d n : Nat) (f : Nat → Int32) (bg te rd : Int32) (s : MtS) (X : AX) : Prop :=
  xI X m 2 = bg ∧ xI X m 3 = te ∧ xI X m 4 = mS s ∧ xJ X m 5 = mW s * rd.toInt64 ∧ xJ X m 6 = mFr s ∧ xI X m 7 = mT s ∧ xI X m 8 = mP s ∧ xR X m 1 = some d ∧ 0 < mB s ∧
  ∃ T B, Pt (m + 1) X T B ∧ B ∣ te.toInt * dPrd f n ∧ T * mB s = mA s * B
/-- what a second leaves as it was -/
def TkF (m : Nat) (X X' : AX) : Prop := xS X' = xS X ∧ xR X' = xR X ∧ xN X' = xN X ∧ (∀ i, (i < m ∨ m + 4 < i) → xI X' i = xI X i) ∧ (∀ j, j ≠ 4 → j ≠ 7 → j ≠ 8 → xI X' m j = xI X m j) ∧ ∀ i, i ≠ m → xJ X' i = xJ X i
theorem TkF.trans {m : Nat} {X Y Z : AX} (h1 : TkF m X Y) (h2 : TkF m Y Z) : TkF m X Z := ⟨h2.1.trans h1.1, h2.2.1.trans h1.2.1, h2.2.2.1.trans h1.2.2.1, fun i hi => (h2.2.2.2.1 i hi).trans (h1.2.2.2.1 i hi), fun j a b c => (h2.2.2.2.2.1 j a b c).trans (h1.2.2.2.2.1 j a b c), fun i hi => (h2.2.2.2.2.2 i hi).trans (h1.2.2.2.2.2 i hi)⟩
theorem TkF.rfl' {m : Nat} {X : AX} : TkF m X X := ⟨rfl, rfl, rfl, fun _ _ => rfl, fun _ _ _ _ => rfl, fun _ _ => rfl⟩
theorem s_dprice2 (hd : shp tb0 X d = (kcl q, 1)) (hd1 : shp tb0 X (d + 1) = (1, 15)) (hq : q < 5) (hf : ∀ j, j < 15 → xI X (d + 1) j = f (15 * k + j)) {v : Int32} (h : K (some (vI (tkPr f k q bg v))) X) : dsp (shp tb0 X d).1 (fun w => w [vR (some d), vI (mnOf bg v)] X K (fun _ _ => False)) [(0, w_X1_priceAt tb0), (1, w_X1_priceAt tb0), (2, w_X1_priceAt tb0), (3, w_X1_priceAt tb0), (6, w_X6_priceAt tb0)] := by
  refine s_dprice hd hd1 hq (fun c => ?_) (fun c => ?_)
  · rw [hf 6 (by decide), hf 7 (by decide)] at c
    rw [hf 8 (by decide)]
    unfold tkPr at h
    rw [if_pos c] at h; exact h
  · rw [hf 6 (by decide), hf 7 (by decide)] at c
    rw [hf 2 (by decide)]
    unfold tkPr at h
    rw [if_neg c] at h; exact h
theorem s_dlen2 (hd : shp tb0 X d = (kcl q, 1)) (hd1 : shp tb0 X (d + 1) = (1, 15)) (hq : q < 5) (hf : ∀ j, j < 15 → xI X (d + 1) j = f (15 * k + j)) (h : K (some (vI (tkLn f k q te w))) X) : dsp (shp tb0 X d).1 (fun v => v [vR (some d), vL w, vI te] X K (fun _ _ => False)) [(0, w_X1_lengthBehind tb0), (1, w_X1_lengthBehind tb0), (2, w_X2_lengthBehind tb0), (3, w_X2_lengthBehind tb0), (6, w_X1_lengthBehind tb0)] := by
  refine s_dlen hd hd1 hq (fun c => ?_) (fun c => ?_)
  · rw [hf 9 (by decide)] at c
    rw [hf 10 (by decide)]
    unfold tkLn at h
    rw [if_pos c] at h; exact h
  · rw [hf 9 (by decide)] at c
    rw [hf 3 (by decide)]
    unfold tkLn at h
    rw [if_neg c] at h; exact h
/-- the way of a second, as int and as long -/
def wayOk (p : Int64) (rd a : Int32) : Prop := a.toInt = p.toInt * rd.toInt ∧ a.toInt64 = p * rd.toInt64 ∧ 0 ≤ a.toInt ∧ a.toInt ≤ 10000000
set_option maxHeartbeats 1000000 in
theorem s_tick_15 (hd : 92 ≤ d) (hs : S d = (kcl q, 1)) (hs1 : S (d + 1) = (1, 15)) (hq : q < 5) (hk : k < n) (hn : n ≤ 12) (hf : ∀ j, j < 15 → F (d + 1) j = f (15 * k + j)) (hb : numOk f n) (hte : bnd te 1 200) (hw : wayOk p rd a) (hR : cRep 15 d n f bg te rd s (S, F, J, R, nn))
    (hK : ∀ X', TkF 15 (S, F, J, R, nn) X' → cRep 15 d n f bg te rd (tkG f k q bg te rd p s) X' → K (some (vI (tkV f k q te rd p s))) X') : w_X5_tick tb0 [vR (some 15), vI a] (S, F, J, R, nn) K KX := by
  obtain ⟨r2, r3, r4, r5, r6, r7, r8, rt, rQ, T, B, rP, rB, rT⟩ := hR
  obtain ⟨wa, wb, w0, w1⟩ := hw
  have hte' := hte
  unfold bnd at hte'
  have sh : ∀ I J' R' n', shp tb0 (S, I, J', R', n') d = (kcl q, 1) := fun I J' R' n' => by rw [shp_hi hd]; exact hs
  have sh1 : ∀ I J' R' n', shp tb0 (S, I, J', R', n') (d + 1) = (1, 15) := fun I J' R' n' => by rw [shp_hi (by omega)]; exact hs1
  have hc := isC_k q hq
  obtain ⟨n3, n4, n5, n10⟩ := num_at hb hk
  obtain ⟨hM0, hM⟩ := dM_lt hb hn hte
  have hTB : 0 ≤ T ∧ T < B := by
    obtain ⟨_, _, _, _, _, _, _, _, _, z1, z2, _⟩ := rP
    exact ⟨z1, z2⟩
  obtain ⟨dd1, dd2⟩ := tkD_bd (q := q) hb hk hte (w := mW s * rd.toInt64) (A := p.toInt * rd.toInt)
  have ddv := (tkD_set (f := f) (q := q) (te := te) hk (w := mW s * rd.toInt64) (A := p.toInt * rd.toInt)).2
  have dvN : ∀ z : Int, 0 ≤ z → z ∣ te.toInt * dPrd f n → z.toNat ∣ (te.toInt * dPrd f n).toNat := fun z hz hv => by
    obtain ⟨c, hc⟩ := hv
    have c0 : 0 ≤ c := by
      rcases Int.lt_or_le c 0 with g | g
      · have := Int.mul_nonneg hz (show 0 ≤ -c by omega)
        rw [Int.mul_neg] at this
        omega
      · exact g
    refine ⟨c.toNat, ?_⟩
    rw [hc, Int.toNat_mul hz c0]
  have k80 : ∀ X' (due : Int32) (D : Int) (nv : Int) T1 B1, D = tkD f k q te (mW s * rd.toInt64) (p.toInt * rd.toInt) → nv = tkN f k te (p.toInt * rd.toInt) → Fr (16) (S, F, J, R, nn) X' → Pt (16) X' T1 B1 → B1.toNat ∣ (te.toInt * dPrd f n).toNat → T1 * (B * D) = (T * D + nv * B - due.toInt * (B * D)) * B1 → r_X5_tick tb0 K KX 80 [some (vR (some 15)), some (vI a), some (vI (tkPr f k q bg (mS s))), some (vI due), none] [] X' 0 0 := by
    intro X' due D nv T1 B1 eD eN hF hP hB1 hE
    have hT1 : 0 ≤ T1 ∧ T1 < B1 := by
      obtain ⟨_, _, _, _, _, _, _, _, _, z1, z2, _⟩ := hP
      exact ⟨z1, z2⟩
    have hc := tk_cls (n := nv) (d := D) (D := due.toInt) (by omega) rQ (by omega) (by omega) rT hE hT1.1 hT1.2
    have edue : due = tkV f k q te rd p s := by
      unfold tkV tkU
      rw [← eD, ← eN, hc.1, Int32.ofInt_toInt]
    obtain ⟨f1, f2, f3, f4, f5⟩ := hF
    have i15 : xI X' 15 = F 15 := f5 15 (by decide) (by decide) (by decide) (by decide)
    refine e_X5_tick_80_m15 ?_
    rw [edue]
    rw [edue] at hc
    have j15 : xJ X' = J := f2
    refine hK _ ⟨f1, f3, f4, fun i hi => ?_, fun j h4 h7 h8 => ?_, fun i hi => ?_⟩ ⟨?_, ?_, ?_, ?_, ?_, ?_, ?_, ?_, ?_, T1, B1, Pt_tr rfl (fun j hj => ⟨rfl, rfl⟩) hP, ?_, ?_⟩
    · show u2 (u2 (u2 (xI X') 15 4 _) 15 7 _) 15 8 _ i = F i
      rw [u2_ne _ _ _ (by omega), u2_ne _ _ _ (by omega), u2_ne _ _ _ (by omega)]
      exact f5 i (by omega) (by omega) (by omega) (by omega)
    · show u2 (u2 (u2 (xI X') 15 4 _) 15 7 _) 15 8 _ 15 j = F 15 j
      rw [u2_at, if_neg h8, u2_at, if_neg h7, u2_at, if_neg h4, i15]
    · show u2 (u2 (xJ X') 15 5 _) 15 6 _ i = J i
      rw [u2_ne _ _ _ hi, u2_ne _ _ _ hi, j15]
    · show xI X' 15 2 = bg
      rw [i15]; exact r2
    · show xI X' 15 3 = te
      rw [i15]; exact r3
    · show xI X' 15 4 + 1 = mS s + 1
      rw [i15]; exact congrArg (· + 1) r4
    · show xJ X' 15 5 + a.toInt64 = (mW s + p) * rd.toInt64
      rw [j15, Int64.add_mul, wb]; exact congrArg (· + p * rd.toInt64) r5
    · show xJ X' 15 6 + (tkV f k q te rd p s - tkM (xI X' 15 8) (tkV f k q te rd p s)).toInt64 * (tkPr f k q bg (mS s)).toInt64 = mFr s + (tkV f k q te rd p s - tkM (mP s) (tkV f k q te rd p s)).toInt64 * (tkPr f k q bg (mS s)).toInt64
      rw [j15, i15, show F 15 8 = mP s from r8, show J 15 6 = mFr s from r6]
    · show xI X' 15 7 + tkV f k q te rd p s = mT s + tkV f k q te rd p s
      rw [i15, show F 15 7 = mT s from r7]
    · show xI X' 15 8 - tkM (xI X' 15 8) (tkV f k q te rd p s) = mP s - tkM (mP s) (tkV f k q te rd p s)
      rw [i15, show F 15 8 = mP s from r8]
    · show xR X' 15 1 = some d
      rw [f3]; exact rt
    · show 0 < mB s * tkD f k q te (mW s * rd.toInt64) (p.toInt * rd.toInt)
      exact Int.mul_pos rQ (by omega)
    · have z : ((B1.toNat : Nat) : Int) ∣ ((te.toInt * dPrd f n).toNat : Nat) := Int.natCast_dvd_natCast.mpr hB1
      rw [Int.toNat_of_nonneg (by omega), Int.toNat_of_nonneg (by omega)] at z
      exact z
    · show T1 * (mB s * tkD f k q te (mW s * rd.toInt64) (p.toInt * rd.toInt)) = (mA s * tkD f k q te (mW s * rd.toInt64) (p.toInt * rd.toInt) + tkN f k te (p.toInt * rd.toInt) * mB s - (tkV f k q te rd p s).toInt * (mB s * tkD f k q te (mW s * rd.toInt64) (p.toInt * rd.toInt))) * B1
      rw [← eD, ← eN]; exact hc.2
  have m5 := mulb n5.1 n5.2 (show 0 ≤ te.toInt by omega) hte'.2
  have p5 : (f (15 * k + 5) * te).toInt = (f (15 * k + 5)).toInt * te.toInt := n_mul (by omega) (by omega)
  have f5' : F (d + 1) (Int32.toNatClampNeg 5) = f (15 * k + 5) := hf 5 (by decide)
  have f4' : F (d + 1) (Int32.toNatClampNeg 4) = f (15 * k + 4) := hf 4 (by decide)
  refine i_X5_tick_m15 (i_X5_minuteOfDay_m15 ⟨by decide, by decide, rI_in (onS_eq rt ?_)⟩)
  rw [show ((xI (S, F, J, R, nn) 15 2 + xI (S, F, J, R, nn) 15 4) / 60) - ((xI (S, F, J, R, nn) 15 2 + xI (S, F, J, R, nn) 15 4) / 60) / 1440 * 1440 = mnOf bg (mS s) by rw [r2, r4]; rfl]
  refine s_dprice2 (sh _ _ _ _) (sh1 _ _ _ _) hq hf (rI_in (onS_eq rt (gd_in ⟨by rw [sh]; exact hc, by rw [sh]⟩ (gd_in (by rw [sh1]) ⟨by rw [sh1]; unfold vp_in; decide, fun c => ?_, fun c => onS_eq rt ?_⟩))))
  · have c1 : a ≤ F (d + 1) (Int32.toNatClampNeg 5) * F 15 3 := c
    rw [f5', show F 15 3 = te from r3] at c1
    have c2 := Int32.le_iff_toInt_le.mp c1
    have c3 : ¬ (f (15 * k + 5)).toInt * te.toInt < p.toInt * rd.toInt := by omega
    refine e_X5_tick_62_m15 (onS_eq rt (gd_in ⟨by rw [sh]; exact hc, by rw [sh]⟩ (gd_in (by rw [sh1]) ⟨by rw [sh1]; unfold vp_in; decide, ?_⟩)))
    have eD : (f (15 * k + 4)).toInt = tkD f k q te (mW s * rd.toInt64) (p.toInt * rd.toInt) := by unfold tkD; rw [if_neg c3]
    have e1 : (1 : Int32).toInt = 1 := by decide
    have eN : (1 : Int32).toInt = tkN f k te (p.toInt * rd.toInt) := by unfold tkN; rw [if_neg c3, e1]
    rw [show xI (S, F, J, R, nn) (d + 1) (Int32.toNatClampNeg 4) = f (15 * k + 4) from f4']
    exact s_add_16 rP (by decide) ⟨by omega, by omega⟩ (M := (te.toInt * dPrd f n).toNat) hM (by omega) (dvN B (by omega) rB) (dvN _ (by omega) (by rw [eD]; exact ddv)) (fun X' due T1 B1 hF hP hB1 hE _ => rI_in (k80 X' due _ _ T1 B1 eD eN hF hP hB1 hE))
  · have c1 : ¬ a ≤ F (d + 1) (Int32.toNatClampNeg 5) * F 15 3 := c
    rw [f5', show F 15 3 = te from r3] at c1
    have c3 : (f (15 * k + 5)).toInt * te.toInt < p.toInt * rd.toInt := by
      rcases Int.lt_or_le ((f (15 * k + 5)).toInt * te.toInt) (p.toInt * rd.toInt) with g | g
      · exact g
      · exact absurd (Int32.le_iff_toInt_le.mpr (by omega)) c1
    rw [show xJ (S, F, J, R, nn) 15 5 = mW s * rd.toInt64 from r5, show xI (S, F, J, R, nn) 15 3 = te from r3]
    refine s_dlen2 (sh _ _ _ _) (sh1 _ _ _ _) hq hf (rI_in ?_)
    rw [show xI (S, F, J, R, nn) 15 3 = te from r3]
    have lb := tkLn_bd (q := q) (te := te) (w := mW s * rd.toInt64) hb hk
    have lm := mulb (show 0 ≤ (tkLn f k q te (mW s * rd.toInt64)).toInt by omega) lb.2 (show 0 ≤ te.toInt by omega) hte'.2
    have lp : (tkLn f k q te (mW s * rd.toInt64) * te).toInt = (tkLn f k q te (mW s * rd.toInt64)).toInt * te.toInt := n_mul (by omega) (by omega)
    have eD : (tkLn f k q te (mW s * rd.toInt64) * te).toInt = tkD f k q te (mW s * rd.toInt64) (p.toInt * rd.toInt) := by unfold tkD; rw [if_pos c3, lp]
    have eN : a.toInt = tkN f k te (p.toInt * rd.toInt) := by unfold tkN; rw [if_pos c3, wa]
    exact s_add_16 rP w0 ⟨by omega, by omega⟩ (M := (te.toInt * dPrd f n).toNat) hM (by omega) (dvN B (by omega) rB) (dvN _ (by omega) (by rw [eD]; exact ddv)) (fun X' due T1 B1 hF hP hB1 hE _ => rI_in (k80 X' due _ _ T1 B1 eD eN hF hP hB1 hE))
set_option maxHeartbeats 1000000 in
theorem s_tick_29 (hd : 92 ≤ d) (hs : S d = (kcl q, 1)) (hs1 : S (d + 1) = (1, 15)) (hq : q < 5) (hk : k < n) (hn : n ≤ 12) (hf : ∀ j, j < 15 → F (d + 1) j = f (15 * k + j)) (hb : numOk f n) (hte : bnd te 1 200) (hw : wayOk p rd a) (hR : cRep 29 d n f bg te rd s (S, F, J, R, nn))
    (hK : ∀ X', TkF 29 (S, F, J, R, nn) X' → cRep 29 d n f bg te rd (tkG f k q bg te rd p s) X' → K (some (vI (tkV f k q te rd p s))) X') : w_X5_tick tb0 [vR (some 29), vI a] (S, F, J, R, nn) K KX := by
  obtain ⟨r2, r3, r4, r5, r6, r7, r8, rt, rQ, T, B, rP, rB, rT⟩ := hR
  obtain ⟨wa, wb, w0, w1⟩ := hw
  have hte' := hte
  unfold bnd at hte'
  have sh : ∀ I J' R' n', shp tb0 (S, I, J', R', n') d = (kcl q, 1) := fun I J' R' n' => by rw [shp_hi hd]; exact hs
  have sh1 : ∀ I J' R' n', shp tb0 (S, I, J', R', n') (d + 1) = (1, 15) := fun I J' R' n' => by rw [shp_hi (by omega)]; exact hs1
  have hc := isC_k q hq
  obtain ⟨n3, n4, n5, n10⟩ := num_at hb hk
  obtain ⟨hM0, hM⟩ := dM_lt hb hn hte
  have hTB : 0 ≤ T ∧ T < B := by
    obtain ⟨_, _, _, _, _, _, _, _, _, z1, z2, _⟩ := rP
    exact ⟨z1, z2⟩
  obtain ⟨dd1, dd2⟩ := tkD_bd (q := q) hb hk hte (w := mW s * rd.toInt64) (A := p.toInt * rd.toInt)
  have ddv := (tkD_set (f := f) (q := q) (te := te) hk (w := mW s * rd.toInt64) (A := p.toInt * rd.toInt)).2
  have dvN : ∀ z : Int, 0 ≤ z → z ∣ te.toInt * dPrd f n → z.toNat ∣ (te.toInt * dPrd f n).toNat := fun z hz hv => by
    obtain ⟨c, hc⟩ := hv
    have c0 : 0 ≤ c := by
      rcases Int.lt_or_le c 0 with g | g
      · have := Int.mul_nonneg hz (show 0 ≤ -c by omega)
        rw [Int.mul_neg] at this
        omega
      · exact g
    refine ⟨c.toNat, ?_⟩
    rw [hc, Int.toNat_mul hz c0]
  have k80 : ∀ X' (due : Int32) (D : Int) (nv : Int) T1 B1, D = tkD f k q te (mW s * rd.toInt64) (p.toInt * rd.toInt) → nv = tkN f k te (p.toInt * rd.toInt) → Fr (30) (S, F, J, R, nn) X' → Pt (30) X' T1 B1 → B1.toNat ∣ (te.toInt * dPrd f n).toNat → T1 * (B * D) = (T * D + nv * B - due.toInt * (B * D)) * B1 → r_X5_tick tb0 K KX 80 [some (vR (some 29)), some (vI a), some (vI (tkPr f k q bg (mS s))), some (vI due), none] [] X' 0 0 := by
    intro X' due D nv T1 B1 eD eN hF hP hB1 hE
    have hT1 : 0 ≤ T1 ∧ T1 < B1 := by
      obtain ⟨_, _, _, _, _, _, _, _, _, z1, z2, _⟩ := hP
      exact ⟨z1, z2⟩
    have hc := tk_cls (n := nv) (d := D) (D := due.toInt) (by omega) rQ (by omega) (by omega) rT hE hT1.1 hT1.2
    have edue : due = tkV f k q te rd p s := by
      unfold tkV tkU
      rw [← eD, ← eN, hc.1, Int32.ofInt_toInt]
    obtain ⟨f1, f2, f3, f4, f5⟩ := hF
    have i15 : xI X' 29 = F 29 := f5 29 (by decide) (by decide) (by decide) (by decide)
    refine e_X5_tick_80_m29 ?_
    rw [edue]
    rw [edue] at hc
    have j15 : xJ X' = J := f2
    refine hK _ ⟨f1, f3, f4, fun i hi => ?_, fun j h4 h7 h8 => ?_, fun i hi => ?_⟩ ⟨?_, ?_, ?_, ?_, ?_, ?_, ?_, ?_, ?_, T1, B1, Pt_tr rfl (fun j hj => ⟨rfl, rfl⟩) hP, ?_, ?_⟩
    · show u2 (u2 (u2 (xI X') 29 4 _) 29 7 _) 29 8 _ i = F i
      rw [u2_ne _ _ _ (by omega), u2_ne _ _ _ (by omega), u2_ne _ _ _ (by omega)]
      exact f5 i (by omega) (by omega) (by omega) (by omega)
    · show u2 (u2 (u2 (xI X') 29 4 _) 29 7 _) 29 8 _ 29 j = F 29 j
      rw [u2_at, if_neg h8, u2_at, if_neg h7, u2_at, if_neg h4, i15]
    · show u2 (u2 (xJ X') 29 5 _) 29 6 _ i = J i
      rw [u2_ne _ _ _ hi, u2_ne _ _ _ hi, j15]
    · show xI X' 29 2 = bg
      rw [i15]; exact r2
    · show xI X' 29 3 = te
      rw [i15]; exact r3
    · show xI X' 29 4 + 1 = mS s + 1
      rw [i15]; exact congrArg (· + 1) r4
    · show xJ X' 29 5 + a.toInt64 = (mW s + p) * rd.toInt64
      rw [j15, Int64.add_mul, wb]; exact congrArg (· + p * rd.toInt64) r5
    · show xJ X' 29 6 + (tkV f k q te rd p s - tkM (xI X' 29 8) (tkV f k q te rd p s)).toInt64 * (tkPr f k q bg (mS s)).toInt64 = mFr s + (tkV f k q te rd p s - tkM (mP s) (tkV f k q te rd p s)).toInt64 * (tkPr f k q bg (mS s)).toInt64
      rw [j15, i15, show F 29 8 = mP s from r8, show J 29 6 = mFr s from r6]
    · show xI X' 29 7 + tkV f k q te rd p s = mT s + tkV f k q te rd p s
      rw [i15, show F 29 7 = mT s from r7]
    · show xI X' 29 8 - tkM (xI X' 29 8) (tkV f k q te rd p s) = mP s - tkM (mP s) (tkV f k q te rd p s)
      rw [i15, show F 29 8 = mP s from r8]
    · show xR X' 29 1 = some d
      rw [f3]; exact rt
    · show 0 < mB s * tkD f k q te (mW s * rd.toInt64) (p.toInt * rd.toInt)
      exact Int.mul_pos rQ (by omega)
    · have z : ((B1.toNat : Nat) : Int) ∣ ((te.toInt * dPrd f n).toNat : Nat) := Int.natCast_dvd_natCast.mpr hB1
      rw [Int.toNat_of_nonneg (by omega), Int.toNat_of_nonneg (by omega)] at z
      exact z
    · show T1 * (mB s * tkD f k q te (mW s * rd.toInt64) (p.toInt * rd.toInt)) = (mA s * tkD f k q te (mW s * rd.toInt64) (p.toInt * rd.toInt) + tkN f k te (p.toInt * rd.toInt) * mB s - (tkV f k q te rd p s).toInt * (mB s * tkD f k q te (mW s * rd.toInt64) (p.toInt * rd.toInt))) * B1
      rw [← eD, ← eN]; exact hc.2
  have m5 := mulb n5.1 n5.2 (show 0 ≤ te.toInt by omega) hte'.2
  have p5 : (f (15 * k + 5) * te).toInt = (f (15 * k + 5)).toInt * te.toInt := n_mul (by omega) (by omega)
  have f5' : F (d + 1) (Int32.toNatClampNeg 5) = f (15 * k + 5) := hf 5 (by decide)
  have f4' : F (d + 1) (Int32.toNatClampNeg 4) = f (15 * k + 4) := hf 4 (by decide)
  refine i_X5_tick_m29 (i_X5_minuteOfDay_m29 ⟨by decide, by decide, rI_in (onS_eq rt ?_)⟩)
  rw [show ((xI (S, F, J, R, nn) 29 2 + xI (S, F, J, R, nn) 29 4) / 60) - ((xI (S, F, J, R, nn) 29 2 + xI (S, F, J, R, nn) 29 4) / 60) / 1440 * 1440 = mnOf bg (mS s) by rw [r2, r4]; rfl]
  refine s_dprice2 (sh _ _ _ _) (sh1 _ _ _ _) hq hf (rI_in (onS_eq rt (gd_in ⟨by rw [sh]; exact hc, by rw [sh]⟩ (gd_in (by rw [sh1]) ⟨by rw [sh1]; unfold vp_in; decide, fun c => ?_, fun c => onS_eq rt ?_⟩))))
  · have c1 : a ≤ F (d + 1) (Int32.toNatClampNeg 5) * F 29 3 := c
    rw [f5', show F 29 3 = te from r3] at c1
    have c2 := Int32.le_iff_toInt_le.mp c1
    have c3 : ¬ (f (15 * k + 5)).toInt * te.toInt < p.toInt * rd.toInt := by omega
    refine e_X5_tick_62_m29 (onS_eq rt (gd_in ⟨by rw [sh]; exact hc, by rw [sh]⟩ (gd_in (by rw [sh1]) ⟨by rw [sh1]; unfold vp_in; decide, ?_⟩)))
    have eD : (f (15 * k + 4)).toInt = tkD f k q te (mW s * rd.toInt64) (p.toInt * rd.toInt) := by unfold tkD; rw [if_neg c3]
    have e1 : (1 : Int32).toInt = 1 := by decide
    have eN : (1 : Int32).toInt = tkN f k te (p.toInt * rd.toInt) := by unfold tkN; rw [if_neg c3, e1]
    rw [show xI (S, F, J, R, nn) (d + 1) (Int32.toNatClampNeg 4) = f (15 * k + 4) from f4']
    exact s_add_30 rP (by decide) ⟨by omega, by omega⟩ (M := (te.toInt * dPrd f n).toNat) hM (by omega) (dvN B (by omega) rB) (dvN _ (by omega) (by rw [eD]; exact ddv)) (fun X' due T1 B1 hF hP hB1 hE _ => rI_in (k80 X' due _ _ T1 B1 eD eN hF hP hB1 hE))
  · have c1 : ¬ a ≤ F (d + 1) (Int32.toNatClampNeg 5) * F 29 3 := c
    rw [f5', show F 29 3 = te from r3] at c1
    have c3 : (f (15 * k + 5)).toInt * te.toInt < p.toInt * rd.toInt := by
      rcases Int.lt_or_le ((f (15 * k + 5)).toInt * te.toInt) (p.toInt * rd.toInt) with g | g
      · exact g
      · exact absurd (Int32.le_iff_toInt_le.mpr (by omega)) c1
    rw [show xJ (S, F, J, R, nn) 29 5 = mW s * rd.toInt64 from r5, show xI (S, F, J, R, nn) 29 3 = te from r3]
    refine s_dlen2 (sh _ _ _ _) (sh1 _ _ _ _) hq hf (rI_in ?_)
    rw [show xI (S, F, J, R, nn) 29 3 = te from r3]
    have lb := tkLn_bd (q := q) (te := te) (w := mW s * rd.toInt64) hb hk
    have lm := mulb (show 0 ≤ (tkLn f k q te (mW s * rd.toInt64)).toInt by omega) lb.2 (show 0 ≤ te.toInt by omega) hte'.2
    have lp : (tkLn f k q te (mW s * rd.toInt64) * te).toInt = (tkLn f k q te (mW s * rd.toInt64)).toInt * te.toInt := n_mul (by omega) (by omega)
    have eD : (tkLn f k q te (mW s * rd.toInt64) * te).toInt = tkD f k q te (mW s * rd.toInt64) (p.toInt * rd.toInt) := by unfold tkD; rw [if_pos c3, lp]
    have eN : a.toInt = tkN f k te (p.toInt * rd.toInt) := by unfold tkN; rw [if_pos c3, wa]
    exact s_add_30 rP w0 ⟨by omega, by omega⟩ (M := (te.toInt * dPrd f n).toNat) hM (by omega) (dvN B (by omega) rB) (dvN _ (by omega) (by rw [eD]; exact ddv)) (fun X' due T1 B1 hF hP hB1 hE _ => rI_in (k80 X' due _ _ T1 B1 eD eN hF hP hB1 hE))
set_option maxHeartbeats 1000000 in
theorem s_tick_37 (hd : 92 ≤ d) (hs : S d = (kcl q, 1)) (hs1 : S (d + 1) = (1, 15)) (hq : q < 5) (hk : k < n) (hn : n ≤ 12) (hf : ∀ j, j < 15 → F (d + 1) j = f (15 * k + j)) (hb : numOk f n) (hte : bnd te 1 200) (hw : wayOk p rd a) (hR : cRep 37 d n f bg te rd s (S, F, J, R, nn))
    (hK : ∀ X', TkF 37 (S, F, J, R, nn) X' → cRep 37 d n f bg te rd (tkG f k q bg te rd p s) X' → K (some (vI (tkV f k q te rd p s))) X') : w_X5_tick tb0 [vR (some 37), vI a] (S, F, J, R, nn) K KX := by
  obtain ⟨r2, r3, r4, r5, r6, r7, r8, rt, rQ, T, B, rP, rB, rT⟩ := hR
  obtain ⟨wa, wb, w0, w1⟩ := hw
  have hte' := hte
  unfold bnd at hte'
  have sh : ∀ I J' R' n', shp tb0 (S, I, J', R', n') d = (kcl q, 1) := fun I J' R' n' => by rw [shp_hi hd]; exact hs
  have sh1 : ∀ I J' R' n', shp tb0 (S, I, J', R', n') (d + 1) = (1, 15) := fun I J' R' n' => by rw [shp_hi (by omega)]; exact hs1
  have hc := isC_k q hq
  obtain ⟨n3, n4, n5, n10⟩ := num_at hb hk
  obtain ⟨hM0, hM⟩ := dM_lt hb hn hte
  have hTB : 0 ≤ T ∧ T < B := by
    obtain ⟨_, _, _, _, _, _, _, _, _, z1, z2, _⟩ := rP
    exact ⟨z1, z2⟩
  obtain ⟨dd1, dd2⟩ := tkD_bd (q := q) hb hk hte (w := mW s * rd.toInt64) (A := p.toInt * rd.toInt)
  have ddv := (tkD_set (f := f) (q := q) (te := te) hk (w := mW s * rd.toInt64) (A := p.toInt * rd.toInt)).2
  have dvN : ∀ z : Int, 0 ≤ z → z ∣ te.toInt * dPrd f n → z.toNat ∣ (te.toInt * dPrd f n).toNat := fun z hz hv => by
    obtain ⟨c, hc⟩ := hv
    have c0 : 0 ≤ c := by
      rcases Int.lt_or_le c 0 with g | g
      · have := Int.mul_nonneg hz (show 0 ≤ -c by omega)
        rw [Int.mul_neg] at this
        omega
      · exact g
    refine ⟨c.toNat, ?_⟩
    rw [hc, Int.toNat_mul hz c0]
  have k80 : ∀ X' (due : Int32) (D : Int) (nv : Int) T1 B1, D = tkD f k q te (mW s * rd.toInt64) (p.toInt * rd.toInt) → nv = tkN f k te (p.toInt * rd.toInt) → Fr (38) (S, F, J, R, nn) X' → Pt (38) X' T1 B1 → B1.toNat ∣ (te.toInt * dPrd f n).toNat → T1 * (B * D) = (T * D + nv * B - due.toInt * (B * D)) * B1 → r_X5_tick tb0 K KX 80 [some (vR (some 37)), some (vI a), some (vI (tkPr f k q bg (mS s))), some (vI due), none] [] X' 0 0 := by
    intro X' due D nv T1 B1 eD eN hF hP hB1 hE
    have hT1 : 0 ≤ T1 ∧ T1 < B1 := by
      obtain ⟨_, _, _, _, _, _, _, _, _, z1, z2, _⟩ := hP
      exact ⟨z1, z2⟩
    have hc := tk_cls (n := nv) (d := D) (D := due.toInt) (by omega) rQ (by omega) (by omega) rT hE hT1.1 hT1.2
    have edue : due = tkV f k q te rd p s := by
      unfold tkV tkU
      rw [← eD, ← eN, hc.1, Int32.ofInt_toInt]
    obtain ⟨f1, f2, f3, f4, f5⟩ := hF
    have i15 : xI X' 37 = F 37 := f5 37 (by decide) (by decide) (by decide) (by decide)
    refine e_X5_tick_80_m37 ?_
    rw [edue]
    rw [edue] at hc
    have j15 : xJ X' = J := f2
    refine hK _ ⟨f1, f3, f4, fun i hi => ?_, fun j h4 h7 h8 => ?_, fun i hi => ?_⟩ ⟨?_, ?_, ?_, ?_, ?_, ?_, ?_, ?_, ?_, T1, B1, Pt_tr rfl (fun j hj => ⟨rfl, rfl⟩) hP, ?_, ?_⟩
    · show u2 (u2 (u2 (xI X') 37 4 _) 37 7 _) 37 8 _ i = F i
      rw [u2_ne _ _ _ (by omega), u2_ne _ _ _ (by omega), u2_ne _ _ _ (by omega)]
      exact f5 i (by omega) (by omega) (by omega) (by omega)
    · show u2 (u2 (u2 (xI X') 37 4 _) 37 7 _) 37 8 _ 37 j = F 37 j
      rw [u2_at, if_neg h8, u2_at, if_neg h7, u2_at, if_neg h4, i15]
    · show u2 (u2 (xJ X') 37 5 _) 37 6 _ i = J i
      rw [u2_ne _ _ _ hi, u2_ne _ _ _ hi, j15]
    · show xI X' 37 2 = bg
      rw [i15]; exact r2
    · show xI X' 37 3 = te
      rw [i15]; exact r3
    · show xI X' 37 4 + 1 = mS s + 1
      rw [i15]; exact congrArg (· + 1) r4
    · show xJ X' 37 5 + a.toInt64 = (mW s + p) * rd.toInt64
      rw [j15, Int64.add_mul, wb]; exact congrArg (· + p * rd.toInt64) r5
    · show xJ X' 37 6 + (tkV f k q te rd p s - tkM (xI X' 37 8) (tkV f k q te rd p s)).toInt64 * (tkPr f k q bg (mS s)).toInt64 = mFr s + (tkV f k q te rd p s - tkM (mP s) (tkV f k q te rd p s)).toInt64 * (tkPr f k q bg (mS s)).toInt64
      rw [j15, i15, show F 37 8 = mP s from r8, show J 37 6 = mFr s from r6]
    · show xI X' 37 7 + tkV f k q te rd p s = mT s + tkV f k q te rd p s
      rw [i15, show F 37 7 = mT s from r7]
    · show xI X' 37 8 - tkM (xI X' 37 8) (tkV f k q te rd p s) = mP s - tkM (mP s) (tkV f k q te rd p s)
      rw [i15, show F 37 8 = mP s from r8]
    · show xR X' 37 1 = some d
      rw [f3]; exact rt
    · show 0 < mB s * tkD f k q te (mW s * rd.toInt64) (p.toInt * rd.toInt)
      exact Int.mul_pos rQ (by omega)
    · have z : ((B1.toNat : Nat) : Int) ∣ ((te.toInt * dPrd f n).toNat : Nat) := Int.natCast_dvd_natCast.mpr hB1
      rw [Int.toNat_of_nonneg (by omega), Int.toNat_of_nonneg (by omega)] at z
      exact z
    · show T1 * (mB s * tkD f k q te (mW s * rd.toInt64) (p.toInt * rd.toInt)) = (mA s * tkD f k q te (mW s * rd.toInt64) (p.toInt * rd.toInt) + tkN f k te (p.toInt * rd.toInt) * mB s - (tkV f k q te rd p s).toInt * (mB s * tkD f k q te (mW s * rd.toInt64) (p.toInt * rd.toInt))) * B1
      rw [← eD, ← eN]; exact hc.2
  have m5 := mulb n5.1 n5.2 (show 0 ≤ te.toInt by omega) hte'.2
  have p5 : (f (15 * k + 5) * te).toInt = (f (15 * k + 5)).toInt * te.toInt := n_mul (by omega) (by omega)
  have f5' : F (d + 1) (Int32.toNatClampNeg 5) = f (15 * k + 5) := hf 5 (by decide)
  have f4' : F (d + 1) (Int32.toNatClampNeg 4) = f (15 * k + 4) := hf 4 (by decide)
  refine i_X5_tick_m37 (i_X5_minuteOfDay_m37 ⟨by decide, by decide, rI_in (onS_eq rt ?_)⟩)
  rw [show ((xI (S, F, J, R, nn) 37 2 + xI (S, F, J, R, nn) 37 4) / 60) - ((xI (S, F, J, R, nn) 37 2 + xI (S, F, J, R, nn) 37 4) / 60) / 1440 * 1440 = mnOf bg (mS s) by rw [r2, r4]; rfl]
  refine s_dprice2 (sh _ _ _ _) (sh1 _ _ _ _) hq hf (rI_in (onS_eq rt (gd_in ⟨by rw [sh]; exact hc, by rw [sh]⟩ (gd_in (by rw [sh1]) ⟨by rw [sh1]; unfold vp_in; decide, fun c => ?_, fun c => onS_eq rt ?_⟩))))
  · have c1 : a ≤ F (d + 1) (Int32.toNatClampNeg 5) * F 37 3 := c
    rw [f5', show F 37 3 = te from r3] at c1
    have c2 := Int32.le_iff_toInt_le.mp c1
    have c3 : ¬ (f (15 * k + 5)).toInt * te.toInt < p.toInt * rd.toInt := by omega
    refine e_X5_tick_62_m37 (onS_eq rt (gd_in ⟨by rw [sh]; exact hc, by rw [sh]⟩ (gd_in (by rw [sh1]) ⟨by rw [sh1]; unfold vp_in; decide, ?_⟩)))
    have eD : (f (15 * k + 4)).toInt = tkD f k q te (mW s * rd.toInt64) (p.toInt * rd.toInt) := by unfold tkD; rw [if_neg c3]
    have e1 : (1 : Int32).toInt = 1 := by decide
    have eN : (1 : Int32).toInt = tkN f k te (p.toInt * rd.toInt) := by unfold tkN; rw [if_neg c3, e1]
    rw [show xI (S, F, J, R, nn) (d + 1) (Int32.toNatClampNeg 4) = f (15 * k + 4) from f4']
    exact s_add_38 rP (by decide) ⟨by omega, by omega⟩ (M := (te.toInt * dPrd f n).toNat) hM (by omega) (dvN B (by omega) rB) (dvN _ (by omega) (by rw [eD]; exact ddv)) (fun X' due T1 B1 hF hP hB1 hE _ => rI_in (k80 X' due _ _ T1 B1 eD eN hF hP hB1 hE))
  · have c1 : ¬ a ≤ F (d + 1) (Int32.toNatClampNeg 5) * F 37 3 := c
    rw [f5', show F 37 3 = te from r3] at c1
    have c3 : (f (15 * k + 5)).toInt * te.toInt < p.toInt * rd.toInt := by
      rcases Int.lt_or_le ((f (15 * k + 5)).toInt * te.toInt) (p.toInt * rd.toInt) with g | g
      · exact g
      · exact absurd (Int32.le_iff_toInt_le.mpr (by omega)) c1
    rw [show xJ (S, F, J, R, nn) 37 5 = mW s * rd.toInt64 from r5, show xI (S, F, J, R, nn) 37 3 = te from r3]
    refine s_dlen2 (sh _ _ _ _) (sh1 _ _ _ _) hq hf (rI_in ?_)
    rw [show xI (S, F, J, R, nn) 37 3 = te from r3]
    have lb := tkLn_bd (q := q) (te := te) (w := mW s * rd.toInt64) hb hk
    have lm := mulb (show 0 ≤ (tkLn f k q te (mW s * rd.toInt64)).toInt by omega) lb.2 (show 0 ≤ te.toInt by omega) hte'.2
    have lp : (tkLn f k q te (mW s * rd.toInt64) * te).toInt = (tkLn f k q te (mW s * rd.toInt64)).toInt * te.toInt := n_mul (by omega) (by omega)
    have eD : (tkLn f k q te (mW s * rd.toInt64) * te).toInt = tkD f k q te (mW s * rd.toInt64) (p.toInt * rd.toInt) := by unfold tkD; rw [if_pos c3, lp]
    have eN : a.toInt = tkN f k te (p.toInt * rd.toInt) := by unfold tkN; rw [if_pos c3, wa]
    exact s_add_38 rP w0 ⟨by omega, by omega⟩ (M := (te.toInt * dPrd f n).toNat) hM (by omega) (dvN B (by omega) rB) (dvN _ (by omega) (by rw [eD]; exact ddv)) (fun X' due T1 B1 hF hP hB1 hE _ => rI_in (k80 X' due _ _ T1 B1 eD eN hF hP hB1 hE))
end Tick
