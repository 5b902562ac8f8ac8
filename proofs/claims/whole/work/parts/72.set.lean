/-! set -/
/-- the cells below 92 alone -/
def low (X : AX) : AX := (xS X, fun i => if i < 92 then xI X i else fun _ => 0, xJ X, xR X, xN X)
theorem low_tr {P : AX → Prop} {X X' : AX} (e : low X' = low X) (h : P (low X)) : P (low X') := e ▸ h
theorem low_u2 {S : Nat → Nat × Nat} {I I' : Nat → Nat → Int32} {J : Nat → Nat → Int64} {R : Nat → Nat → Option Nat} {nn : Nat} (h : ∀ i, i < 92 → I' i = I i) : low (S, I', J, R, nn) = low (S, I, J, R, nn) := by
  unfold low
  congr 2
  funext i
  by_cases c : i < 92
  · rw [if_pos c, if_pos c]; exact h i c
  · rw [if_neg c, if_neg c]
theorem low_W {X X' : AX} (e : low X' = low X) (h : rlW X) : rlW X' := low_tr (P := rlW) e h
theorem low_R {X X' : AX} (e : low X' = low X) (h : rlR X) : rlR X' := low_tr (P := rlR) e h
theorem low_L {n s : Nat} {X X' : AX} (e : low X' = low X) (h : rlL n s X) : rlL n s X' := low_tr (P := rlL n s) e h
theorem low_E {s : Nat} {X X' : AX} (e : low X' = low X) (h : rlE s X) : rlE s X' := low_tr (P := rlE s) e h
theorem low_K {l : Nat} {X X' : AX} (e : low X' = low X) (h : rlK l X) : rlK l X' := low_tr (P := rlK l) e h
theorem low_H {t h : Nat} {X X' : AX} (e : low X' = low X) (hh : rlH t h X) : rlH t h X' := low_tr (P := rlH t h) e hh
theorem low_G {t n h : Nat} {X X' : AX} (e : low X' = low X) (hh : rlG t n h X) : rlG t n h X' := low_tr (P := rlG t n h) e hh
section Ops
variable {L : Nat} {xs : Nat → Int32} {t n s h l : Nat} {X : AX} {K : Option AV → AX → Prop} {KX : String → AX → Prop}
theorem s_may2 {a1 a2 : Int32} (h0 : 0 ≤ a1.toInt) (h15 : a1.toInt < 15) (h1 : (aLst a1.toNatClampNeg).toInt ≤ a2.toInt → a2.toInt ≤ (aMst a1.toNatClampNeg).toInt → K (some (vI 1)) X) (hf : ¬ ((aLst a1.toNatClampNeg).toInt ≤ a2.toInt ∧ a2.toInt ≤ (aMst a1.toNatClampNeg).toInt) → K (some (vI 0)) X) : w_X12_may tb0 [vI a1, vI a2] X K KX := by
  have hc := clp h0
  have z := s_may (X := X) (K := K) (KX := KX) (j := a1.toNatClampNeg) (a1 := a2) (by omega) h1 hf
  rw [show nI a1.toNatClampNeg = a1 from (nI_ofI h0).symm] at z
  exact z
theorem rlT_set {X' : AX} {k j d : Nat} {v : Int32} (hT : rlT n X) (hk : k < n) (hj : j < 15) (hd : rlT1 X k d) (hS : xS X' = xS X) (hN : xN X' = xN X) (hR8 : xR X' 8 = xR X 8) (h4 : xI X' 4 4 = xI X 4 4) (h5 : xI X' 42 5 = xI X 42 5) (h45 : xI X' 45 = xI X 45) (h46 : xI X' 46 = stf (xI X 46) (15 * k + j) v) (hI : ∀ i, 92 ≤ i → i ≠ d + 1 → xI X' i = xI X i) (hId : xI X' (d + 1) = stf (xI X (d + 1)) j v) (hv : bnd v (aLst j).toInt (aMst j).toInt) : rlT n X' := by
  obtain ⟨a, b, c, e⟩ := hT
  obtain ⟨u1, u2', u3, ⟨q, hq, u4, u5⟩, u6, u7, u8⟩ := id hd
  refine ⟨h4.trans a, h5.trans b, c, fun k' hk' => ?_⟩
  obtain ⟨d', w1, w2, w3, ⟨q', hq', w4, w5⟩, w6, w7, w8⟩ := e k' hk'
  have hne : d' ≠ d + 1 := fun z => by
    rw [z, u6] at w5
    have : ∀ q, q < 5 → (1 : Nat) ≠ kcl q := by decide
    exact this q' hq' (congrArg Prod.fst w5)
  refine ⟨d', by rw [hR8]; exact w1, w2, by rw [hN]; exact w3, ⟨q', hq', by rw [h45]; exact w4, by rw [hS]; exact w5⟩, by rw [hS]; exact w6, by rw [hI d' w2 hne]; exact w7, fun j' hj' => ?_⟩
  rw [h46]
  by_cases hkk : k' = k
  · subst hkk
    have hdd : d' = d := Option.some.inj (w1.symm.trans u1)
    subst hdd
    rw [hId]
    by_cases hjj : j' = j
    · subst hjj; rw [stf_at, stf_at]; exact ⟨rfl, hv⟩
    · rw [stf_ne _ _ hjj, stf_ne _ _ (by omega)]; exact w8 j' hj'
  · have hdd : d' ≠ d := fun z => by
      subst z
      exact hkk ((nI_eq (by omega) (by omega)).mp (w7.symm.trans u7))
    rw [hI (d' + 1) (by omega) (by omega), stf_ne _ _ (by omega)]
    exact w8 j' hj'
theorem rlC_set {X' : AX} {d : Nat} (hC : rlC h X) (hd : 92 ≤ d) (h6 : xS X (d + 1) = (1, 15)) (hS : xS X' = xS X) (hN : xN X' = xN X) (hR : xR X' 4 10 = xR X 4 10) (hI : ∀ i, i ≠ d + 1 → i ≠ 42 → i ≠ 46 → xI X' i = xI X i) : rlC h X' := by
  have hE : nEnd h X' = nEnd h X := by unfold nEnd; rw [hI 14 (by omega) (by decide) (by decide)]
  obtain ⟨rid, len, a, b, c, e, f, g, i, j, k⟩ := hC
  have hr : rid ≠ d + 1 := fun z => by
    rw [z, shp_hi (by omega), h6] at e
    have := congrArg Prod.snd e
    simp at this
    omega
  refine ⟨rid, len, hR.trans a, b, by rw [hN]; exact c, by unfold shp at e ⊢; rw [hS]; exact e, f, g, by rw [hE]; exact i, ?_, ?_⟩
  · rw [hE, hI rid hr (by omega) (by omega), hI 51 (by omega) (by decide) (by decide), hI 52 (by omega) (by decide) (by decide), hI 53 (by omega) (by decide) (by decide), hI 54 (by omega) (by decide) (by decide)]; exact j
  · rw [hE, hI 55 (by omega) (by decide) (by decide)]; exact k
theorem fin_set {a0 a1 a2 : Int32} {d : Nat} (H : Rel L xs t n s h l X) (e6 : (xI X 14 6).toInt = 0) (hd1 : rlT1 X a0.toNatClampNeg d) (v1 : a0.toNatClampNeg < n) (hh0 : 0 ≤ a0.toInt) (hh12 : a0.toInt < 12) (hh1 : 0 ≤ a1.toInt) (hh15 : a1.toInt < 15) (hbv : bnd a2 (aLst a1.toNatClampNeg).toInt (aMst a1.toNatClampNeg).toInt) : FinI L xs t 0 (u2 X.snd.fst (d + 1) a1.toNatClampNeg a2 46 (15 * a0.toNatClampNeg + a1.toNatClampNeg)) (X.fst, u2 (u2 (u2 X.snd.fst (d + 1) a1.toNatClampNeg a2) 42 0 0) 46 (15 * a0 + a1).toNatClampNeg a2, u2 X.snd.snd.fst 91 (Int32.toNatClampNeg 0) (X.snd.fst (d + 1) a1.toNatClampNeg).toInt64, X.snd.snd.snd.fst, X.snd.snd.snd.snd) := by
  obtain ⟨hS, hW, hR, hT, hL, hE, hKk, hH, hC, hG⟩ := id H
  obtain ⟨t1, t2, t3, ⟨q, hq, t4, t5⟩, t6, t7, t8⟩ := id hd1
  have hcl := clp hh0
  have hcl1 := clp hh1
  have hbv' := hbv
  unfold bnd at hbv'
  obtain ⟨e1, e2⟩ := ix15 (a := a0) (b := a1) (by omega) (by omega) (by omega) (by omega)
  have hlow : low (X.fst, u2 (u2 (u2 X.snd.fst (d + 1) a1.toNatClampNeg a2) 42 0 0) 46 (15 * a0 + a1).toNatClampNeg a2, u2 X.snd.snd.fst 91 (Int32.toNatClampNeg 0) (X.snd.fst (d + 1) a1.toNatClampNeg).toInt64, X.snd.snd.snd.fst, X.snd.snd.snd.snd) = low (X.fst, u2 (u2 X.snd.fst 42 0 0) 46 (15 * a0 + a1).toNatClampNeg a2, u2 X.snd.snd.fst 91 (Int32.toNatClampNeg 0) (X.snd.fst (d + 1) a1.toNatClampNeg).toInt64, X.snd.snd.snd.fst, X.snd.snd.snd.snd) := low_u2 fun i hi => by
    funext j
    have hne : ¬ i = d + 1 := by omega
    simp only [u2_ap, if_neg hne]
  have hG2 : rlG t n h (X.fst, u2 (u2 X.snd.fst 42 0 0) 46 (15 * a0 + a1).toNatClampNeg a2, u2 X.snd.snd.fst 91 (Int32.toNatClampNeg 0) (X.snd.fst (d + 1) a1.toNatClampNeg).toInt64, X.snd.snd.snd.fst, X.snd.snd.snd.snd) := ⟨fun z => absurd (e6.symm.trans z) (by decide), hG.2.1, ⟨hG.2.2.1.1, hG.2.2.1.2.1, hG.2.2.1.2.2.1, fun z => absurd (e6.symm.trans z) (by decide)⟩, hG.2.2.2⟩
  have hne46 : ∀ i, i ≠ d + 1 → i ≠ 42 → i ≠ 46 → (u2 (u2 (u2 X.snd.fst (d + 1) a1.toNatClampNeg a2) 42 0 0) 46 (15 * a0 + a1).toNatClampNeg a2) i = X.snd.fst i := fun i q1 q2 q3 => by
    rw [u2_ne _ _ _ q3, u2_ne _ _ _ q2, u2_ne _ _ _ q1]
  refine fin_of (n := n) (s := s) (h := h) (l := l) ⟨⟨hS.1, (hne46 0 (by omega) (by decide) (by decide)).trans hS.2.1, ⟨hS.2.2.1.1, (hne46 1 (by omega) (by decide) (by decide)).trans hS.2.2.1.2⟩, ⟨hS.2.2.2.1.1, (hne46 2 (by omega) (by decide) (by decide)).trans hS.2.2.2.1.2⟩, ⟨hS.2.2.2.2.1.1, (hne46 3 (by omega) (by decide) (by decide)).trans hS.2.2.2.2.1.2⟩, hS.2.2.2.2.2⟩, low_W hlow hW, low_R hlow hR, ?_, low_L hlow hL, low_E hlow hE, low_K hlow hKk, low_H hlow hH, rlC_set hC t2 t6 rfl rfl rfl hne46, low_G hlow hG2⟩ ?_ ?_
  · refine rlT_set (k := a0.toNatClampNeg) (j := a1.toNatClampNeg) (d := d) (v := a2) hT v1 (by omega) hd1 rfl rfl rfl ?_ ?_ ?_ ?_ (fun i q1 q2 => hne46 i q2 (by omega) (by omega)) ?_ ⟨by omega, by omega⟩
    · show (u2 (u2 (u2 X.snd.fst (d + 1) a1.toNatClampNeg a2) 42 0 0) 46 (15 * a0 + a1).toNatClampNeg a2) 4 4 = X.snd.fst 4 4
      rw [hne46 4 (by omega) (by decide) (by decide)]
    · show u2 (u2 (u2 X.snd.fst (d + 1) a1.toNatClampNeg a2) 42 0 0) 46 (15 * a0 + a1).toNatClampNeg a2 42 5 = X.snd.fst 42 5
      rw [u2_ne _ _ _ (by decide : (42 : Nat) ≠ 46), u2_at, if_neg (by decide), u2_ne _ _ _ (by omega)]
    · exact hne46 45 (by omega) (by decide) (by decide)
    · rw [← e2]
      funext j
      show u2 (u2 (u2 X.snd.fst (d + 1) a1.toNatClampNeg a2) 42 0 0) 46 (15 * a0 + a1).toNatClampNeg a2 46 j = _
      rw [u2_at]
      rw [u2_ne _ _ _ (by decide : (46 : Nat) ≠ 42), u2_ne _ _ _ (by omega)]
      rfl
    · funext j
      show u2 (u2 (u2 X.snd.fst (d + 1) a1.toNatClampNeg a2) 42 0 0) 46 (15 * a0 + a1).toNatClampNeg a2 (d + 1) j = _
      rw [u2_ne _ _ _ (by omega), u2_ne _ _ _ (by omega), u2_at]
      rfl
  · rfl
  · show (X.snd.fst (d + 1) a1.toNatClampNeg).toInt64 = (u2 X.snd.fst (d + 1) a1.toNatClampNeg a2 46 (15 * a0.toNatClampNeg + a1.toNatClampNeg)).toInt64
    rw [u2_ne _ _ _ (by omega)]
    exact congrArg Int32.toInt64 (t8 _ (by omega)).1
set_option maxRecDepth 100000 in
set_option maxHeartbeats 4000000 in
theorem op_set {a0 a1 a2 : Int32} (H : Rel L xs t n s h l X) (hK : ∀ c X1, SamS X X1 → (∀ K2 KX2, (∀ b X4, FinI L xs t c b X4 → K2 (some (vI b)) X4) → w_X12_set tb0 [vR (some 42), vI a0, vI a1, vI a2] X1 K2 KX2) → K (some (vI c)) X1) : w_L_set tb0 [vR (some 4), vI a0, vI a1, vI a2, vR (some 91)] X K KX := by
  obtain ⟨hS, hW, hR, hT, hL, hE, hKk, hH, hC, hG⟩ := id H
  have hr := congrArg Int32.toInt hH.2.2.2.1
  have hb := b_toInt hH.2.2.2.2.1
  simp only [Int32.lt_iff_toInt_lt, Int32.le_iff_toInt_le, ← Int32.toInt_inj, u2_ap, reduceIte, Nat.reduceEqDiff, xI, xJ, xR, xS, xN, li_0, li_1, li_2, li_3, li_4, li_5, li_6, li_7, li_8, li_9, li_10, li_11, li_12, li_13, li_14, li_15, li_16, li_20, li_34, li_40, li_50, li_59, li_60, li_64, li_99, li_100, li_200, li_500, li_1439, li_1440, li_3840, li_4000, li_10000, li_60000, li_1000000, li_m1, li_min] at hr hb
  have hn12 := hT.2.2.1
  have ht1 : (xI X 4 4).toInt = n := by rw [hT.1, nI_toInt (by omega)]
  have ht2 : (xI X 42 5).toInt = n := by rw [hT.2.1, nI_toInt (by omega)]
  simp only [Int32.lt_iff_toInt_lt, Int32.le_iff_toInt_le, ← Int32.toInt_inj, u2_ap, reduceIte, Nat.reduceEqDiff, xI, xJ, xR, xS, xN, li_0, li_1, li_2, li_3, li_4, li_5, li_6, li_7, li_8, li_9, li_10, li_11, li_12, li_13, li_14, li_15, li_16, li_20, li_34, li_40, li_50, li_59, li_60, li_64, li_99, li_100, li_200, li_500, li_1439, li_1440, li_3840, li_4000, li_10000, li_60000, li_1000000, li_m1, li_min, ck_0, ck_1, ck_2, ck_3, ck_4] at ht1 ht2
  have hsh2 : shp tb0 X 2 = (1, 15) := hS.2.2.2.1.1
  have hsh3 : shp tb0 X 3 = (1, 15) := hS.2.2.2.2.1.1
  have hb2 : (xI X 2 a1.toNatClampNeg).toInt = (aLst a1.toNatClampNeg).toInt := by rw [hS.2.2.2.1.2]
  have hb3 : (xI X 3 a1.toNatClampNeg).toInt = (aMst a1.toNatClampNeg).toInt := by rw [hS.2.2.2.2.1.2]
  simp only [Int32.lt_iff_toInt_lt, Int32.le_iff_toInt_le, ← Int32.toInt_inj, u2_ap, reduceIte, Nat.reduceEqDiff, xI, xJ, xR, xS, xN, li_0, li_1, li_2, li_3, li_4, li_5, li_6, li_7, li_8, li_9, li_10, li_11, li_12, li_13, li_14, li_15, li_16, li_20, li_34, li_40, li_50, li_59, li_60, li_64, li_99, li_100, li_200, li_500, li_1439, li_1440, li_3840, li_4000, li_10000, li_60000, li_1000000, li_m1, li_min, ck_0, ck_1, ck_2, ck_3, ck_4] at hb2 hb3
  by_cases hin : 0 ≤ a0.toInt ∧ a0.toInt < n
  · obtain ⟨hi0, hi1⟩ := hin
    obtain ⟨d, hd1, v1, v2, v3, v4, v5⟩ := rlT_get hT (x := a0) ⟨by omega, by omega⟩
    obtain ⟨t1, t2, t3, ⟨q, hq, t4, t5⟩, t6, t7, t8⟩ := id hd1
    have hsd : (shp tb0 X d).1 = kcl q := by rw [shp_hi t2, t5]
    have hcl := clp (x := a0)
    have hcl1 := clp (x := a1)
    repeat' (first
      | with_reducible refine i_L_set ?_
      | with_reducible refine e_L_set_31 ?_
      | with_reducible refine e_L_set_29 ?_
      | with_reducible refine e_L_set_25 ?_
      | with_reducible refine e_L_set_21 ?_
      | with_reducible refine e_L_set_17 ?_
      | with_reducible refine i_X11_set ?_
      | with_reducible refine i_X12_set ?_
      | with_reducible refine e_X12_set_17 ?_
      | with_reducible refine e_X12_set_18 ?_
      | with_reducible refine e_X12_set_61 ?_
      | with_reducible refine e_X12_set_63 ?_
      | with_reducible refine i_X12_isTariff ?_
      | with_reducible refine e_X12_isTariff_17 ?_
      | with_reducible refine e_X12_isTariff_18 ?_
      | (refine hK _ _ (SamS.mk rfl rfl) (fun K2 KX2 hK2 => ?_); dsimp only [xI, xJ, xR, xS, xN]; obtain ⟨I1, hI1⟩ : ∃ I1, I1 = u2 X.2.1 (d + 1) a1.toNatClampNeg a2 := ⟨_, rfl⟩; rw [← hI1]; have g42 : I1 42 = X.2.1 42 := (by rw [hI1]; exact u2_ne _ _ _ (by omega)); have g45 : I1 45 = X.2.1 45 := (by rw [hI1]; exact u2_ne _ _ _ (by omega)); have f14 : (I1 42 14).toInt = (X.2.1 42 14).toInt := (by rw [g42]); have f5 : (I1 42 5).toInt = (X.2.1 42 5).toInt := (by rw [g42]))
      | ((with_reducible refine s_mhas (q := q) ?_ ?_ ?_ hq ?_ ?_); (· omega); (· omega); (· exact (congrFun g45 _).trans t4))
      | (with_reducible refine onS_in ?_)
      | (rw [t1]; refine onS_in ?_)
      | (with_reducible refine s_dhas (q := q) hsd hq ?_ ?_)
      | (with_reducible refine gd_in ⟨v3, v4⟩ ?_)
      | (rw [v5]; refine gd_in rfl ?_)
      | (rw [v5]; refine gd_in ⟨by omega, rfl⟩ ?_)
      | (refine And.intro (vp_in_iff.mpr ⟨by omega, by show _ < ((15 : Nat) : Int); omega⟩) ?_)
      | ((with_reducible refine s_mhas (q := q) ?_ ?_ ?_ hq ?_ ?_); (· omega); (· omega); (· exact t4))
      | ((with_reducible refine s_numberOf ?_ ?_ ?_ ?_ ?_); (· omega); (· omega); (· omega); (· omega))
      | (rw [hsh2]; refine gd_in rfl ?_)
      | (rw [hsh3]; refine gd_in rfl ?_)
      | ((with_reducible refine s_may2 ?_ ?_ ?_ ?_); (· omega); (· omega))
      | (refine And.intro (vp_in_iff.mpr (by rw [(ix15 (a := a0) (b := a1) (by omega) (by omega) (by omega) (by omega)).1]; constructor <;> omega)) ?_)
      | with_reducible refine s_isFrom ?_ ?_
      | with_reducible refine s_demand1 ?_
      | with_reducible refine s_demand0 ?_
      | with_reducible refine s_demandSuch1 ?_
      | with_reducible refine s_demandSuch0 ?_
      | with_reducible refine s_demandState1 ?_
      | with_reducible refine s_demandState0 ?_
      | with_reducible refine s_demandPlace ?_ ?_
      | with_reducible refine s_refuse ?_ ?_
      | (with_reducible refine s_hired ?hb ?_ ?_; case hb => assumption)
      | with_reducible refine s_right1 ?_
      | with_reducible refine s_right0 (by decide) ?_
      | with_reducible refine s_thrown ?_
      | with_reducible refine rI_in ?_
      | with_reducible refine rV_in ?_
      | with_reducible refine rL_in ?_
      | with_reducible refine rR_in ?_
      | with_reducible refine ite_t rfl ?_
      | with_reducible refine ite_f (by decide) ?_
      | with_reducible refine gd_in (by decide) ?_
      | with_reducible refine or0_and ?_
      | with_reducible refine or1_and ?_
      | with_reducible refine br_t (by decide) ?_
      | with_reducible refine br_f (by decide) ?_
      | with_reducible refine br_t2 (by decide) ?_
      | with_reducible refine br_f2 (by decide) ?_
      | (with_reducible refine vin_and ?hv ?_; case hv => first | omega | (simp only [Int32.lt_iff_toInt_lt, Int32.le_iff_toInt_le, ← Int32.toInt_inj, u2_ap, reduceIte, Nat.reduceEqDiff, xI, xJ, xR, xS, xN, li_0, li_1, li_2, li_3, li_4, li_5, li_6, li_7, li_8, li_9, li_10, li_11, li_12, li_13, li_14, li_15, li_16, li_20, li_34, li_40, li_50, li_59, li_60, li_64, li_99, li_100, li_200, li_500, li_1439, li_1440, li_3840, li_4000, li_10000, li_60000, li_1000000, li_m1, li_min, ck_0, ck_1, ck_2, ck_3, ck_4] at * <;> omega))
      | (with_reducible refine ne_and ?hv ?_; case hv => decide)
      | (refine hK _ _ (SamS.mk rfl rfl) (fun K2 KX2 hK2 => ?_); try dsimp only [xI, xJ, xR, xS, xN])
      | (with_reducible refine hK2 _ _ ?_; try dsimp only [xI, xJ, xR, xS, xN])
      | exact fin_thr H (by assumption) _ (by decide)
      | exact finL_thr H (by assumption) _ (by decide)
      | exact finB_thr H (by assumption) (by decide)
      | ((with_reducible refine br_s (fun c => ?_) (fun c => ?_)) <;> (try simp only [Int32.lt_iff_toInt_lt, Int32.le_iff_toInt_le, ← Int32.toInt_inj, u2_ap, reduceIte, Nat.reduceEqDiff, xI, xJ, xR, xS, xN, li_0, li_1, li_2, li_3, li_4, li_5, li_6, li_7, li_8, li_9, li_10, li_11, li_12, li_13, li_14, li_15, li_16, li_20, li_34, li_40, li_50, li_59, li_60, li_64, li_99, li_100, li_200, li_500, li_1439, li_1440, li_3840, li_4000, li_10000, li_60000, li_1000000, li_m1, li_min, ck_0, ck_1, ck_2, ck_3, ck_4] at c) <;> (try (exfalso; omega)))
      | ((with_reducible refine br_s2 (fun c => ?_) (fun c => ?_)) <;> (try simp only [Int32.lt_iff_toInt_lt, Int32.le_iff_toInt_le, ← Int32.toInt_inj, u2_ap, reduceIte, Nat.reduceEqDiff, xI, xJ, xR, xS, xN, li_0, li_1, li_2, li_3, li_4, li_5, li_6, li_7, li_8, li_9, li_10, li_11, li_12, li_13, li_14, li_15, li_16, li_20, li_34, li_40, li_50, li_59, li_60, li_64, li_99, li_100, li_200, li_500, li_1439, li_1440, li_3840, li_4000, li_10000, li_60000, li_1000000, li_m1, li_min, ck_0, ck_1, ck_2, ck_3, ck_4] at c) <;> (try (exfalso; omega)))
      | ((with_reducible intro c); (try simp only [Int32.lt_iff_toInt_lt, Int32.le_iff_toInt_le, ← Int32.toInt_inj, u2_ap, reduceIte, Nat.reduceEqDiff, xI, xJ, xR, xS, xN, li_0, li_1, li_2, li_3, li_4, li_5, li_6, li_7, li_8, li_9, li_10, li_11, li_12, li_13, li_14, li_15, li_16, li_20, li_34, li_40, li_50, li_59, li_60, li_64, li_99, li_100, li_200, li_500, li_1439, li_1440, li_3840, li_4000, li_10000, li_60000, li_1000000, li_m1, li_min, ck_0, ck_1, ck_2, ck_3, ck_4] at c) <;> (try (exfalso; omega))))
    subst hI1
    exact fin_set H (by assumption) hd1 v1 (by omega) (by omega) (by omega) (by omega) ⟨by omega, by omega⟩
  · skip
    repeat' (first
      | with_reducible refine i_L_set ?_
      | with_reducible refine e_L_set_31 ?_
      | with_reducible refine e_L_set_29 ?_
      | with_reducible refine e_L_set_25 ?_
      | with_reducible refine e_L_set_21 ?_
      | with_reducible refine e_L_set_17 ?_
      | with_reducible refine i_X11_set ?_
      | with_reducible refine i_X12_set ?_
      | with_reducible refine e_X12_set_17 ?_
      | with_reducible refine e_X12_set_18 ?_
      | with_reducible refine e_X12_set_61 ?_
      | with_reducible refine e_X12_set_63 ?_
      | with_reducible refine i_X12_isTariff ?_
      | with_reducible refine e_X12_isTariff_17 ?_
      | with_reducible refine e_X12_isTariff_18 ?_
      | with_reducible refine s_isFrom ?_ ?_
      | with_reducible refine s_demand1 ?_
      | with_reducible refine s_demand0 ?_
      | with_reducible refine s_demandSuch1 ?_
      | with_reducible refine s_demandSuch0 ?_
      | with_reducible refine s_demandState1 ?_
      | with_reducible refine s_demandState0 ?_
      | with_reducible refine s_demandPlace ?_ ?_
      | with_reducible refine s_refuse ?_ ?_
      | (with_reducible refine s_hired ?hb ?_ ?_; case hb => assumption)
      | with_reducible refine s_right1 ?_
      | with_reducible refine s_right0 (by decide) ?_
      | with_reducible refine s_thrown ?_
      | with_reducible refine rI_in ?_
      | with_reducible refine rV_in ?_
      | with_reducible refine rL_in ?_
      | with_reducible refine rR_in ?_
      | with_reducible refine ite_t rfl ?_
      | with_reducible refine ite_f (by decide) ?_
      | with_reducible refine gd_in (by decide) ?_
      | with_reducible refine or0_and ?_
      | with_reducible refine or1_and ?_
      | with_reducible refine br_t (by decide) ?_
      | with_reducible refine br_f (by decide) ?_
      | with_reducible refine br_t2 (by decide) ?_
      | with_reducible refine br_f2 (by decide) ?_
      | (with_reducible refine vin_and ?hv ?_; case hv => first | omega | (simp only [Int32.lt_iff_toInt_lt, Int32.le_iff_toInt_le, ← Int32.toInt_inj, u2_ap, reduceIte, Nat.reduceEqDiff, xI, xJ, xR, xS, xN, li_0, li_1, li_2, li_3, li_4, li_5, li_6, li_7, li_8, li_9, li_10, li_11, li_12, li_13, li_14, li_15, li_16, li_20, li_34, li_40, li_50, li_59, li_60, li_64, li_99, li_100, li_200, li_500, li_1439, li_1440, li_3840, li_4000, li_10000, li_60000, li_1000000, li_m1, li_min, ck_0, ck_1, ck_2, ck_3, ck_4] at * <;> omega))
      | (with_reducible refine ne_and ?hv ?_; case hv => decide)
      | (refine hK _ _ (SamS.mk rfl rfl) (fun K2 KX2 hK2 => ?_); try dsimp only [xI, xJ, xR, xS, xN])
      | (with_reducible refine hK2 _ _ ?_; try dsimp only [xI, xJ, xR, xS, xN])
      | exact fin_thr H (by assumption) _ (by decide)
      | exact finL_thr H (by assumption) _ (by decide)
      | exact finB_thr H (by assumption) (by decide)
      | ((with_reducible refine br_s (fun c => ?_) (fun c => ?_)) <;> (try simp only [Int32.lt_iff_toInt_lt, Int32.le_iff_toInt_le, ← Int32.toInt_inj, u2_ap, reduceIte, Nat.reduceEqDiff, xI, xJ, xR, xS, xN, li_0, li_1, li_2, li_3, li_4, li_5, li_6, li_7, li_8, li_9, li_10, li_11, li_12, li_13, li_14, li_15, li_16, li_20, li_34, li_40, li_50, li_59, li_60, li_64, li_99, li_100, li_200, li_500, li_1439, li_1440, li_3840, li_4000, li_10000, li_60000, li_1000000, li_m1, li_min, ck_0, ck_1, ck_2, ck_3, ck_4] at c) <;> (try (exfalso; omega)))
      | ((with_reducible refine br_s2 (fun c => ?_) (fun c => ?_)) <;> (try simp only [Int32.lt_iff_toInt_lt, Int32.le_iff_toInt_le, ← Int32.toInt_inj, u2_ap, reduceIte, Nat.reduceEqDiff, xI, xJ, xR, xS, xN, li_0, li_1, li_2, li_3, li_4, li_5, li_6, li_7, li_8, li_9, li_10, li_11, li_12, li_13, li_14, li_15, li_16, li_20, li_34, li_40, li_50, li_59, li_60, li_64, li_99, li_100, li_200, li_500, li_1439, li_1440, li_3840, li_4000, li_10000, li_60000, li_1000000, li_m1, li_min, ck_0, ck_1, ck_2, ck_3, ck_4] at c) <;> (try (exfalso; omega)))
      | ((with_reducible intro c); (try simp only [Int32.lt_iff_toInt_lt, Int32.le_iff_toInt_le, ← Int32.toInt_inj, u2_ap, reduceIte, Nat.reduceEqDiff, xI, xJ, xR, xS, xN, li_0, li_1, li_2, li_3, li_4, li_5, li_6, li_7, li_8, li_9, li_10, li_11, li_12, li_13, li_14, li_15, li_16, li_20, li_34, li_40, li_50, li_59, li_60, li_64, li_99, li_100, li_200, li_500, li_1439, li_1440, li_3840, li_4000, li_10000, li_60000, li_1000000, li_m1, li_min, ck_0, ck_1, ck_2, ck_3, ck_4] at c) <;> (try (exfalso; omega))))
end Ops
