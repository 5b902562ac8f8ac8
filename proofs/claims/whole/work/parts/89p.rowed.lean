/-! a second by the rows: the class's pass, the reference's rowed -/
section Rowed
variable {S : Nat → Nat × Nat} {F : Nat → Nat → Int32} {J : Nat → Nat → Int64} {R : Nat → Nat → Option Nat} {nn : Nat} {X : AX} {K : Option AV → AX → Prop} {KX : String → AX → Prop} {f ln nu dk : Nat → Int32} {k q n d c τ nd : Nat} {bg te rd u st : Int32} {s : MtS} {p : Int64}
/-- the pulses of a second, or that they are missing -/
def plsF (ln nu : Nat → Int32) (t : Nat) : Int32 := if ((t % 60 : Nat) : Int) < (ln (t / 60)).toInt then nu (60 * (t / 60) + t % 60) else -1
def rowsOk (ln nu : Nat → Int32) : Prop := (∀ r, r < 64 → bnd (ln r) (-1) 60) ∧ ∀ j, j < 3840 → bnd (nu j) 0 500
theorem plF_bd (h : rowsOk ln nu) (ht : τ < 3840) : -1 ≤ (plsF ln nu τ).toInt ∧ (plsF ln nu τ).toInt ≤ 500 := by
  unfold plsF
  by_cases c : ((τ % 60 : Nat) : Int) < (ln (τ / 60)).toInt
  · rw [if_pos c]
    have z := h.2 (60 * (τ / 60) + τ % 60) (by omega)
    unfold bnd at z
    omega
  · rw [if_neg c]
    have e : (-1 : Int32).toInt = -1 := by decide
    omega
theorem q60 (ht : τ < 3840) : ((nI τ / 60).toInt = (τ / 60 : Nat) ∧ (nI τ / 60).toNatClampNeg = τ / 60) ∧ ((nI τ - nI τ / 60 * 60).toInt = (τ % 60 : Nat) ∧ (nI τ - nI τ / 60 * 60).toNatClampNeg = τ % 60) := by
  have e60 : (60 : Int32).toInt = 60 := by decide
  have e0 : (nI τ).toInt = τ := nI_toInt (by omega)
  have e1 := n_div (x := nI τ) (y := 60) (by omega) (by omega)
  have e2 := n_rem (x := nI τ) (y := 60) (by omega) (by omega)
  rw [e0, e60] at e1 e2
  have c1 := clp (x := nI τ / 60) (by omega)
  have c2 := clp (x := nI τ - nI τ / 60 * 60) (by omega)
  omega
theorem s_ofSecond (h : rowsOk (xI X 7) (xI X 6)) (ht : τ < 3840) (hK : K (some (vI (plsF (xI X 7) (xI X 6) τ))) X) : w_X8_ofSecond tb0 [vR (some 5), vI (nI τ)] X K KX := by
  obtain ⟨⟨a1, a2⟩, b1, b2⟩ := q60 ht
  have z := h.1 (τ / 60) (by omega)
  unfold bnd at z
  refine i_X8_ofSecond ⟨by decide, by decide, s_at (by omega) (by omega) (by rw [a2]; exact z.2) (fun c1 c2 => rI_in ?_) (fun c1 => rI_in ?_)⟩
  · rw [a2, b1] at c2
    rw [a2, b2]
    unfold plsF at hK
    rw [if_pos c2] at hK; exact hK
  · rw [a2, b1] at c1
    unfold plsF at hK
    rw [if_neg (fun y => c1 ⟨by omega, y⟩)] at hK; exact hK
theorem s_told2 (h : rowsOk (xI X 43) (xI X 44)) (ht : τ < 3840) (hK : K (some (vI (plsF (xI X 43) (xI X 44) τ))) X) : w_X12_told tb0 [vR (some 42), vI (nI τ / 60), vI (nI τ - nI τ / 60 * 60)] X K KX := by
  obtain ⟨⟨a1, a2⟩, b1, b2⟩ := q60 ht
  have z := h.1 (τ / 60) (by omega)
  unfold bnd at z
  refine s_told (by omega) (by omega) (by rw [a2]; exact z.2) (fun c1 c2 => ?_) (fun c1 => ?_)
  · rw [a2, b1] at c2
    rw [a2, b2]
    unfold plsF at hK
    rw [if_pos c2] at hK; exact hK
  · rw [a2, b1] at c1
    unfold plsF at hK
    rw [if_neg (fun y => c1 ⟨by omega, y⟩)] at hK; exact hK
/-- pulses that count -/
def pzI (u : Int32) : Int64 := if u = -1 then 0 else u.toInt64
theorem pz_ok (h1 : -1 ≤ u.toInt) (h2 : u.toInt ≤ 500) (hr : bnd rd 1 10000) : wayOk (pzI u) rd ((if u < 0 then 0 else u) * rd) ∧ (pzI u * rd.toInt64).toInt = (pzI u).toInt * rd.toInt := by
  unfold bnd at hr
  have em : (-1 : Int32).toInt = -1 := by decide
  have e0 : (0 : Int32).toInt = 0 := by decide
  have e0L : (0 : Int64).toInt = 0 := by decide
  have key : ∀ x : Int32, 0 ≤ x.toInt → x.toInt ≤ 500 → wayOk x.toInt64 rd (x * rd) ∧ (x.toInt64 * rd.toInt64).toInt = x.toInt64.toInt * rd.toInt := fun x x0 x5 => by
    have m := mulb x0 x5 (show 0 ≤ rd.toInt by omega) hr.2
    have a1 : (x * rd).toInt = x.toInt * rd.toInt := n_mul (by omega) (by omega)
    have a2 : (x.toInt64 * rd.toInt64).toInt = x.toInt * rd.toInt := by rw [n_mulL] <;> rw [n_i2l, n_i2l] <;> omega
    refine ⟨⟨by rw [a1, n_i2l], Int64.toInt_inj.mp (by rw [n_i2l, a1, a2]), by omega, by omega⟩, by rw [a2, n_i2l]⟩
  unfold pzI
  by_cases c : u = -1
  · rw [if_pos c]
    have c0 : u < 0 := Int32.lt_iff_toInt_lt.mpr (by rw [c]; decide)
    rw [if_pos c0]
    exact key 0 (by decide) (by decide)
  · rw [if_neg c]
    have c0 : 0 ≤ u.toInt := by
      rcases Int.lt_or_le u.toInt 0 with g | g
      · exact absurd (Int32.toInt_inj.mp (show u.toInt = (-1 : Int32).toInt by omega)) c
      · exact g
    have c1 : ¬ u < 0 := fun y => by
      have := Int32.lt_iff_toInt_lt.mp y
      omega
    rw [if_neg c1]
    exact key u c0 h2
def ndS (u : Int32) (nd : Nat) : Nat := if u = -1 then nd + 1 else nd
def dkS (u : Int32) (nd : Nat) (dk : Nat → Int32) (t : Int32) : Nat → Int32 := if u = -1 then stf dk nd t else dk
def stS (u : Int32) : Int32 := if u = 0 then 1 else 0
theorem nar_t (ht : τ < 3840) : vp_nar .short (Int16.toInt32 (Int32.toInt16 (nI τ))) = nI τ := by
  have k : ∀ a : Nat, a < 16 → ∀ b : Nat, b < 240 → vp_nar .short (Int16.toInt32 (Int32.toInt16 (nI (240 * a + b)))) = nI (240 * a + b) := by decide +kernel
  have e : 240 * (τ / 240) + τ % 240 = τ := by omega
  have := k (τ / 240) (by omega) (τ % 240) (by omega)
  rw [e] at this
  exact this
def cDk (nd : Nat) (dk : Nat → Int32) (st : Int32) (X : AX) : Prop := xI X 15 13 = nI nd ∧ (∀ j, j < nd → xI X 20 j = dk j) ∧ xI X 15 14 = st
def mDk (c nd : Nat) (dk : Nat → Int32) (st : Int32) (X : AX) : Prop := xI X 69 c = nI nd ∧ (∀ j, j < nd → xI X 82 (3840 * c + j) = dk j) ∧ xI X 78 c = st
def PaF (X X' : AX) : Prop := xS X' = xS X ∧ xR X' = xR X ∧ xN X' = xN X ∧ (∀ i, (i < 15 ∨ 20 < i) → xI X' i = xI X i) ∧ (∀ j, j ≠ 4 → j ≠ 7 → j ≠ 8 → j ≠ 13 → j ≠ 14 → xI X' 15 j = xI X 15 j) ∧ ∀ i, i ≠ 15 → xJ X' i = xJ X i
theorem PaF.trans {X Y Z : AX} (h1 : PaF X Y) (h2 : PaF Y Z) : PaF X Z := ⟨h2.1.trans h1.1, h2.2.1.trans h1.2.1, h2.2.2.1.trans h1.2.2.1, fun i hi => (h2.2.2.2.1 i hi).trans (h1.2.2.2.1 i hi), fun j a b c e g => (h2.2.2.2.2.1 j a b c e g).trans (h1.2.2.2.2.1 j a b c e g), fun i hi => (h2.2.2.2.2.2 i hi).trans (h1.2.2.2.2.2 i hi)⟩
set_option maxHeartbeats 1000000 in
theorem s_pass (hd : 92 ≤ d) (hs : S d = (kcl q, 1)) (hs1 : S (d + 1) = (1, 15)) (hq : q < 5) (hk : k < n) (hn : n ≤ 12) (hf : ∀ j, j < 15 → F (d + 1) j = f (15 * k + j)) (hb : numOk f n) (hte : bnd te 1 200) (hrd : bnd rd 1 10000) (hrow : rowsOk (F 7) (F 6)) (hτ : mS s = nI τ) (hτ2 : τ < 3840) (hnd : nd ≤ τ) (hR : cRep 15 d n f bg te rd s (S, F, J, R, nn)) (hD : cDk nd dk st (S, F, J, R, nn))
    (hK : ∀ X', PaF (S, F, J, R, nn) X' → cRep 15 d n f bg te rd (tkG f k q bg te rd (pzI (plsF (F 7) (F 6) τ)) s) X' → cDk (ndS (plsF (F 7) (F 6) τ) nd) (dkS (plsF (F 7) (F 6) τ) nd dk (nI τ)) (stS (plsF (F 7) (F 6) τ)) X' → K (some (vI (tkV f k q te rd (pzI (plsF (F 7) (F 6) τ)) s))) X') : w_X4_pass tb0 [vR (some 14), vR (some 5), vI rd] (S, F, J, R, nn) K KX := by
  obtain ⟨u1', u2'⟩ := plF_bd hrow hτ2
  have hw := (pz_ok (rd := rd) u1' u2' hrd).1
  have r4 : F 15 4 = nI τ := hR.2.2.1.trans hτ
  obtain ⟨d1, d2, d3⟩ := hD
  have d1' : F 15 13 = nI nd := d1
  have key : ∀ F1 s0, s0 = stS (plsF (F 7) (F 6) τ) → (∀ i, (i < 15 ∨ 20 < i) → F1 i = F i) → (∀ i, 15 < i → i < 20 → F1 i = F i) → (∀ j, j ≠ 13 → F1 15 j = F 15 j) → F1 15 13 = nI (ndS (plsF (F 7) (F 6) τ) nd) → (∀ j, j < ndS (plsF (F 7) (F 6) τ) nd → F1 20 j = dkS (plsF (F 7) (F 6) τ) nd dk (nI τ) j) → r_X4_pass tb0 K KX 63 [some (vR (some 14)), some (vR (some 5)), some (vI rd), some (vI (plsF (F 7) (F 6) τ))] [vI s0, vR (some 15)] (S, F1, J, R, nn) 0 0 := by
    intro F1 s0 hs0 h1 h2 h3 h4 h5
    have hbl : s0 = 0 ∨ s0 = 1 := by
      rw [hs0]
      unfold stS
      by_cases z : plsF (F 7) (F 6) τ = 0
      · rw [if_pos z]; exact Or.inr rfl
      · rw [if_neg z]; exact Or.inl rfl
    refine e_X4_pass_63 ⟨hbl, ?_⟩
    have hR1 : cRep 15 d n f bg te rd s (S, u2 F1 15 14 s0, J, R, nn) := by
      obtain ⟨r2, r3, r4, r5, r6, r7, r8, rt, rQ, T, B, rP, rB, rT⟩ := hR
      refine ⟨?_, ?_, ?_, r5, r6, ?_, ?_, rt, rQ, T, B, Pt_tr ?_ (fun j hj => ⟨?_, ?_⟩) rP, rB, rT⟩
      · exact (h3 2 (by decide)).trans r2
      · exact (h3 3 (by decide)).trans r3
      · exact (h3 4 (by decide)).trans r4
      · exact (h3 7 (by decide)).trans r7
      · exact (h3 8 (by decide)).trans r8
      · exact congrFun (h2 16 (by decide) (by decide)) 3
      · exact congrFun (h2 17 (by decide) (by decide)) j
      · exact congrFun (h2 18 (by decide) (by decide)) j
    refine s_tick_15 (F := u2 F1 15 14 s0) hd hs hs1 hq hk hn ?_ hb hte hw hR1 (fun X' hF hR' => rI_in (hK X' ?_ hR' ?_))
    · intro j hj
      rw [u2_ne _ _ _ (by omega), h1 (d + 1) (by omega)]; exact hf j hj
    · obtain ⟨t1, t2, t3, t4, t5, t6⟩ := hF
      refine ⟨t1, t2, t3, fun i hi => ?_, fun j a4 a7 a8 a13 a14 => ?_, t6⟩
      · rw [t4 i (by omega)]
        show u2 F1 15 14 s0 i = F i
        rw [u2_ne _ _ _ (by omega)]; exact h1 i hi
      · rw [t5 j a4 a7 a8]
        show u2 F1 15 14 s0 15 j = F 15 j
        rw [u2_at, if_neg a14]; exact h3 j a13
    · obtain ⟨t1, t2, t3, t4, t5, t6⟩ := hF
      refine ⟨?_, fun j hj => ?_, ?_⟩
      · rw [t5 13 (by decide) (by decide) (by decide)]; exact h4
      · rw [t4 20 (by decide)]; exact h5 j hj
      · rw [t5 14 (by decide) (by decide) (by decide)]; exact hs0
  have k50 : ∀ F1, (∀ i, (i < 15 ∨ 20 < i) → F1 i = F i) → (∀ i, 15 < i → i < 20 → F1 i = F i) → (∀ j, j ≠ 13 → F1 15 j = F 15 j) → F1 15 13 = nI (ndS (plsF (F 7) (F 6) τ) nd) → (∀ j, j < ndS (plsF (F 7) (F 6) τ) nd → F1 20 j = dkS (plsF (F 7) (F 6) τ) nd dk (nI τ) j) → r_X4_pass tb0 K KX 50 [some (vR (some 14)), some (vR (some 5)), some (vI rd), some (vI (plsF (F 7) (F 6) τ))] [] (S, F1, J, R, nn) 0 0 := fun F1 h1 h2 h3 h4 h5 =>
    e_X4_pass_50 ⟨fun z => e_X4_pass_62 (key F1 0 (by unfold stS; rw [if_neg z]) h1 h2 h3 h4 h5), fun z => key F1 1 (by unfold stS; rw [if_pos z]) h1 h2 h3 h4 h5⟩
  refine i_X4_pass ?_
  rw [show xI (S, F, J, R, nn) 15 4 = nI τ from r4]
  refine s_ofSecond hrow hτ2 (rI_in ⟨fun z => ?_, fun z => ⟨?_, ?_⟩⟩)
  · have z' : ¬ plsF (F 7) (F 6) τ = -1 := z
    refine k50 F (fun _ _ => rfl) (fun _ _ _ => rfl) (fun _ _ => rfl) ?_ ?_
    · unfold ndS; rw [if_neg z']; exact d1
    · unfold ndS dkS; rw [if_neg z', if_neg z']; exact d2
  · rw [show xI (S, F, J, R, nn) 15 13 = nI nd from d1]
    exact vp_in_nI (by omega) (by decide)
  · have z' : plsF (F 7) (F 6) τ = -1 := z
    rw [show xI (S, F, J, R, nn) 15 13 = nI nd from d1, show xI (S, F, J, R, nn) 15 4 = nI τ from r4, nar_t hτ2, nI_clamp (by omega), nI_1]
    refine k50 (u2 (u2 F 20 nd (nI τ)) 15 13 (nI (nd + 1))) (fun i hi => ?_) (fun i h1 h2 => ?_) (fun j hj => ?_) ?_ ?_
    · rw [u2_ne _ _ _ (by omega), u2_ne _ _ _ (by omega)]
    · rw [u2_ne _ _ _ (by omega), u2_ne _ _ _ (by omega)]
    · rw [u2_at, if_neg hj, u2_ne _ _ _ (by decide)]
    · unfold ndS; rw [if_pos z', u2_at, if_pos rfl]
    · unfold ndS dkS
      rw [if_pos z', if_pos z']
      intro j hj
      rw [u2_ne _ _ _ (by decide), u2_at]
      unfold stf
      by_cases e : j = nd
      · rw [if_pos e, if_pos e]
      · rw [if_neg e, if_neg e]; exact d2 j (by omega)
def RwF (c : Nat) (X X' : AX) : Prop := xS X' = xS X ∧ xR X' = xR X ∧ xN X' = xN X ∧ (∀ i, i ≠ 42 → i ≠ 59 → i ≠ 67 → i ≠ 68 → i ≠ 69 → i ≠ 72 → i ≠ 73 → i ≠ 78 → i ≠ 82 → xI X' i = xI X i) ∧ (∀ j, j ≠ 59 → j ≠ 60 → xI X' 42 j = xI X 42 j) ∧ (∀ i j, i ≠ 42 → i ≠ 82 → j ≠ c → xI X' i j = xI X i j) ∧ (∀ i, (i < 74 ∨ 75 < i) → (i < 85 ∨ 90 < i) → xJ X' i = xJ X i) ∧ (∀ i j, i < 85 → j ≠ c → xJ X' i j = xJ X i j) ∧ (∀ j, j < 80 * c ∨ 80 * c + 80 ≤ j → xJ X' 85 j = xJ X 85 j ∧ xJ X' 86 j = xJ X 86 j) ∧ ∀ j, j < 3840 * c ∨ 3840 * c + 3840 ≤ j → xI X' 82 j = xI X 82 j
theorem RwF.trans {c : Nat} {X Y Z : AX} (h1 : RwF c X Y) (h2 : RwF c Y Z) : RwF c X Z := by
  obtain ⟨a1, a2, a3, a4, a5, a6, a7, a8, a9, a10⟩ := h1
  obtain ⟨b1, b2, b3, b4, b5, b6, b7, b8, b9, b10⟩ := h2
  exact ⟨b1.trans a1, b2.trans a2, b3.trans a3, fun i c1 c2 c3 c4 c5 c6 c7 c8 c9 => (b4 i c1 c2 c3 c4 c5 c6 c7 c8 c9).trans (a4 i c1 c2 c3 c4 c5 c6 c7 c8 c9), fun j c1 c2 => (b5 j c1 c2).trans (a5 j c1 c2), fun i j c1 c2 c3 => (b6 i j c1 c2 c3).trans (a6 i j c1 c2 c3), fun i c1 c2 => (b7 i c1 c2).trans (a7 i c1 c2), fun i j c1 c2 => (b8 i j c1 c2).trans (a8 i j c1 c2), fun j c1 => ⟨(b9 j c1).1.trans (a9 j c1).1, (b9 j c1).2.trans (a9 j c1).2⟩, fun j c1 => (b10 j c1).trans (a10 j c1)⟩
set_option maxHeartbeats 1000000 in
theorem s_rowed (hc : c < 5) (hk : k < n) (hn : n ≤ 12) (hq : q < 5) (h45 : F 45 k = nI q) (hf : ∀ j, j < 15 → F 46 (15 * k + j) = f (15 * k + j)) (hb : numOk f n) (hte : bnd te 1 200) (hrd : bnd rd 1 10000) (hrow : rowsOk (F 43) (F 44)) (hτ : mS s = nI τ) (hτ2 : τ < 3840) (hnd : nd ≤ τ) (hR : mRep c k n f bg te rd s (S, F, J, R, nn)) (hD : mDk c nd dk st (S, F, J, R, nn))
    (hK : ∀ X', RwF c (S, F, J, R, nn) X' → mRep c k n f bg te rd (tkG f k q bg te rd (pzI (plsF (F 43) (F 44) τ)) s) X' → mDk c (ndS (plsF (F 43) (F 44) τ) nd) (dkS (plsF (F 43) (F 44) τ) nd dk (nI τ)) (stS (plsF (F 43) (F 44) τ)) X' → K (some (vI (tkV f k q te rd (pzI (plsF (F 43) (F 44) τ)) s))) X') : w_X12_rowed tb0 [vR (some 42), vI (nI c)] (S, F, J, R, nn) K KX := by
  obtain ⟨u1', u2'⟩ := plF_bd hrow hτ2
  obtain ⟨hw, hwp⟩ := pz_ok (rd := rd) u1' u2' hrd
  have ec : (nI c).toNatClampNeg = c := nI_clamp (by omega)
  have vc : vp_in (nI c) 5 := vp_in_nI (by omega) (by decide)
  have e59 : xI (S, F, J, R, nn) 59 (nI c).toNatClampNeg = nI τ := by rw [ec]; exact hR.2.2.2.2.1.trans hτ
  obtain ⟨d1, d2, d3⟩ := hD
  have d1' : xI (S, F, J, R, nn) 69 (nI c).toNatClampNeg = nI nd := by rw [ec]; exact d1
  have key : ∀ F1 s0, s0 = stS (plsF (F 43) (F 44) τ) → (∀ i, i ≠ 69 → i ≠ 82 → F1 i = F i) → (∀ j, j ≠ c → F1 69 j = F 69 j) → F1 69 c = nI (ndS (plsF (F 43) (F 44) τ) nd) → (∀ j, j < ndS (plsF (F 43) (F 44) τ) nd → F1 82 (3840 * c + j) = dkS (plsF (F 43) (F 44) τ) nd dk (nI τ) j) → (∀ j, j < 3840 * c ∨ 3840 * c + 3840 ≤ j → F1 82 j = F 82 j) → r_X12_rowed tb0 K KX 67 [some (vR (some 42)), some (vI (nI c)), some (vI (nI τ)), some (vI (plsF (F 43) (F 44) τ))] [vI s0, vI (nI c), vR (some 78)] (S, F1, J, R, nn) 0 0 := by
    intro F1 s0 hs0 h1 h2 h3 h4 h5
    have hbl : s0 = 0 ∨ s0 = 1 := by
      rw [hs0]
      unfold stS
      by_cases z : plsF (F 43) (F 44) τ = 0
      · rw [if_pos z]; exact Or.inr rfl
      · rw [if_neg z]; exact Or.inl rfl
    have hR1 : mRep c k n f bg te rd s (S, u2 F1 78 c s0, J, R, nn) := by
      obtain ⟨m62, m66, m65, m64, m59, m74, m75, m67, m68, mQ, np, hp8, m73, mg, mN, mM, mD, mI⟩ := hR
      refine ⟨?_, ?_, ?_, ?_, ?_, m74, m75, ?_, ?_, mQ, np, hp8, ?_, mg, ?_, ?_, mD, mI⟩
      · exact (congrFun (h1 62 (by decide) (by decide)) c).trans m62
      · exact (congrFun (h1 66 (by decide) (by decide)) c).trans m66
      · exact (congrFun (h1 65 (by decide) (by decide)) c).trans m65
      · exact (congrFun (h1 64 (by decide) (by decide)) c).trans m64
      · exact (congrFun (h1 59 (by decide) (by decide)) c).trans m59
      · exact (congrFun (h1 67 (by decide) (by decide)) c).trans m67
      · exact (congrFun (h1 68 (by decide) (by decide)) c).trans m68
      · exact (congrFun (h1 73 (by decide) (by decide)) c).trans m73
      · rw [show xI (S, u2 F1 78 c s0, J, R, nn) 72 c = xI (S, F, J, R, nn) 72 c from congrFun (h1 72 (by decide) (by decide)) c]; exact mN
      · rw [show xI (S, u2 F1 78 c s0, J, R, nn) 72 c = xI (S, F, J, R, nn) 72 c from congrFun (h1 72 (by decide) (by decide)) c]; exact mM
    have kp : w_X12_passes tb0 [vR (some 42), vI (nI c), vL (pzI (plsF (F 43) (F 44) τ))] (S, u2 F1 78 c s0, J, R, nn) (fun v2 X1 => rI v2 fun y3 => K (some (vI y3)) X1) KX := by
      refine s_passes (I := u2 F1 78 c s0) hc hk hn hq ?_ ?_ hb hte (hw.1 ▸ hw.2.2.1) (hw.1 ▸ hw.2.2.2) hwp hR1 (fun X' hF hR' => rI_in (hK X' ?_ hR' ?_))
      · rw [u2_ne _ _ _ (by decide), h1 45 (by decide) (by decide)]; exact h45
      · intro j hj
        rw [u2_ne _ _ _ (by decide), h1 46 (by decide) (by decide)]; exact hf j hj
      · obtain ⟨t1, t2, t3, t4, t5, t6, t7, t8, t9⟩ := hF
        refine ⟨t1, t2, t3, fun i c1 c2 c3 c4 c5 c6 c7 c8 c9 => ?_, fun j c1 c2 => ?_, fun i j c1 c2 c3 => ?_, t7, t8, t9, fun j c1 => ?_⟩
        · rw [t4 i c1 c2 c3 c4 c6 c7]
          show u2 F1 78 c s0 i = F i
          rw [u2_ne _ _ _ c8]; exact h1 i c5 c9
        · rw [t5 j c1 c2]
          show u2 F1 78 c s0 42 j = F 42 j
          rw [u2_ne _ _ _ (by decide), h1 42 (by decide) (by decide)]
        · rw [t6 i j c1 c3]
          show u2 F1 78 c s0 i j = F i j
          rw [u2_nj c3]
          by_cases z : i = 69
          · rw [z]; exact h2 j c3
          · rw [h1 i z c2]
        · rw [t4 82 (by decide) (by decide) (by decide) (by decide) (by decide) (by decide)]
          show u2 F1 78 c s0 82 j = F 82 j
          rw [u2_ne _ _ _ (by decide)]; exact h5 j c1
      · obtain ⟨t1, t2, t3, t4, t5, t6, t7, t8, t9⟩ := hF
        refine ⟨?_, fun j hj => ?_, ?_⟩
        · rw [t4 69 (by decide) (by decide) (by decide) (by decide) (by decide) (by decide)]
          show u2 F1 78 c s0 69 c = _
          rw [u2_ne _ _ _ (by decide)]; exact h3
        · rw [t4 82 (by decide) (by decide) (by decide) (by decide) (by decide) (by decide)]
          show u2 F1 78 c s0 82 _ = _
          rw [u2_ne _ _ _ (by decide)]; exact h4 j hj
        · rw [t4 78 (by decide) (by decide) (by decide) (by decide) (by decide) (by decide)]
          show u2 F1 78 c s0 78 c = _
          rw [u2_at, if_pos rfl, hs0]
    refine e_X12_rowed_67 ?_
    rw [ec]
    refine ⟨vc, hbl, fun z => e_X12_rowed_79 (e_X12_rowed_81 ?_), fun z => e_X12_rowed_81 ?_⟩
    · unfold pzI at kp
      rw [if_neg z] at kp
      exact kp
    · unfold pzI at kp
      rw [if_pos z] at kp
      exact kp
  have k53 : ∀ F1, (∀ i, i ≠ 69 → i ≠ 82 → F1 i = F i) → (∀ j, j ≠ c → F1 69 j = F 69 j) → F1 69 c = nI (ndS (plsF (F 43) (F 44) τ) nd) → (∀ j, j < ndS (plsF (F 43) (F 44) τ) nd → F1 82 (3840 * c + j) = dkS (plsF (F 43) (F 44) τ) nd dk (nI τ) j) → (∀ j, j < 3840 * c ∨ 3840 * c + 3840 ≤ j → F1 82 j = F 82 j) → r_X12_rowed tb0 K KX 53 [some (vR (some 42)), some (vI (nI c)), some (vI (nI τ)), some (vI (plsF (F 43) (F 44) τ))] [] (S, F1, J, R, nn) 0 0 := fun F1 h1 h2 h3 h4 h5 =>
    e_X12_rowed_53 ⟨fun z => e_X12_rowed_66 (key F1 0 (by unfold stS; rw [if_neg z]) h1 h2 h3 h4 h5), fun z => key F1 1 (by unfold stS; rw [if_pos z]) h1 h2 h3 h4 h5⟩
  refine i_X12_rowed ?_
  rw [e59]
  refine ⟨vc, by decide, by decide, s_told2 hrow hτ2 (rI_in ⟨fun z => ?_, fun z => ?_⟩)⟩
  · have z' : ¬ plsF (F 43) (F 44) τ = -1 := z
    refine k53 F (fun _ _ _ => rfl) (fun _ _ => rfl) ?_ ?_ (fun _ _ => rfl)
    · unfold ndS; rw [if_neg z']; exact d1
    · unfold ndS dkS; rw [if_neg z', if_neg z']; exact d2
  · have z' : plsF (F 43) (F 44) τ = -1 := z
    rw [d1', ec]
    obtain ⟨x1, x2⟩ := ixm (mm := 3840) (m := 3840) (c := c) (n := nd) (by decide) (by decide) hc (by omega)
    refine ⟨vc, ixm_in (m := 3840) (by decide) (by decide) hc (by omega), vc, vc, ?_⟩
    rw [x2, nI_1]
    refine k53 (u2 (u2 F 82 (3840 * c + nd) (nI τ)) 69 c (nI (nd + 1))) (fun i h1 h2 => ?_) (fun j hj => ?_) ?_ ?_ (fun j hj => ?_)
    · rw [u2_ne _ _ _ h1, u2_ne _ _ _ h2]
    · rw [u2_nj hj, u2_ne _ _ _ (by decide)]
    · unfold ndS; rw [if_pos z', u2_at, if_pos rfl]
    · unfold ndS dkS
      rw [if_pos z', if_pos z']
      intro j hj
      rw [u2_ne _ _ _ (by decide), u2_at]
      unfold stf
      by_cases e : j = nd
      · rw [if_pos e, if_pos (by omega)]
      · rw [if_neg e, if_neg (by omega)]; exact d2 j (by omega)
    · rw [u2_ne _ _ _ (by decide), u2_at, if_neg (by omega)]
end Rowed
