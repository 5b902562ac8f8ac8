/-! receipts, what is told of a hire -/
section Ops
variable {L : Nat} {xs : Nat → Int32} {t n s h l : Nat} {X : AX} {K : Option AV → AX → Prop} {KX : String → AX → Prop}
theorem ix4 {a b : Int32} (ha : 0 ≤ a.toInt) (ha1 : a.toInt < 4000) (hb : 0 ≤ b.toInt) (hb1 : b.toInt ≤ 3) : (a * 4 + b).toInt = 4 * a.toInt + b.toInt ∧ (a * 4 + b).toNatClampNeg = 4 * a.toNatClampNeg + b.toNatClampNeg := by
  have e0 : (4 : Int32).toInt = 4 := by decide
  have e1 : (a * 4).toInt = a.toInt * 4 := by rw [n_mul] <;> rw [e0] <;> omega
  have e2 : (a * 4 + b).toInt = 4 * a.toInt + b.toInt := by rw [n_add] <;> rw [e1] <;> omega
  refine ⟨e2, ?_⟩
  have h1 := clp ha
  have h2 := clp hb
  have h3 := clp (x := a * 4 + b) (by omega)
  omega
set_option maxHeartbeats 4000000 in
theorem op_receipt {a0 a1 : Int32} (ht : t < 600) (H : Rel L xs t n s h l X) (hK : ∀ c X1, SamS X X1 → (∀ K2 KX2, (∀ b X4, FinI L xs t c b X4 → K2 (some (vI b)) X4) → w_X12_receipt tb0 [vR (some 42), vI a0, vI a1] X1 K2 KX2) → K (some (vI c)) X1) : w_L_receipt tb0 [vR (some 4), vI a0, vI a1, vR (some 91)] X K KX := by
  obtain ⟨hS, hW, hR, hT, hL, hE, hKk, hH, hC, hG⟩ := id H
  have hr := congrArg Int32.toInt hH.2.2.2.1
  have hb := b_toInt hH.2.2.2.2.1
  simp only [Int32.lt_iff_toInt_lt, Int32.le_iff_toInt_le, ← Int32.toInt_inj, u2_ap, reduceIte, Nat.reduceEqDiff, xI, xJ, xR, xS, xN, li_0, li_1, li_2, li_3, li_4, li_5, li_6, li_7, li_8, li_9, li_10, li_11, li_12, li_13, li_14, li_15, li_16, li_20, li_34, li_40, li_50, li_59, li_60, li_64, li_99, li_100, li_200, li_500, li_1439, li_1440, li_3840, li_4000, li_10000, li_60000, li_1000000, li_m1, li_min] at hr hb
  have hh1 : (xI X 4 9).toInt = h := by rw [hH.1, nI_toInt (by have := hH.2.2.1; omega)]
  have hh2 : (xI X 42 7).toInt = h := by rw [hH.2.1, nI_toInt (by have := hH.2.2.1; omega)]
  simp only [Int32.lt_iff_toInt_lt, Int32.le_iff_toInt_le, ← Int32.toInt_inj, u2_ap, reduceIte, Nat.reduceEqDiff, xI, xJ, xR, xS, xN, li_0, li_1, li_2, li_3, li_4, li_5, li_6, li_7, li_8, li_9, li_10, li_11, li_12, li_13, li_14, li_15, li_16, li_20, li_34, li_40, li_50, li_59, li_60, li_64, li_99, li_100, li_200, li_500, li_1439, li_1440, li_3840, li_4000, li_10000, li_60000, li_1000000, li_m1, li_min, ck_0, ck_1, ck_2, ck_3, ck_4] at hh1 hh2
  obtain ⟨rid, len, c1, c2, c3, c4, c5, c6, c7, c8, c9⟩ := id hC
  have hm1 : (xI X 4 9 - 1).toInt = (h : Int) - 1 := by
    have e1 : (1 : Int32).toInt = 1 := rfl
    have q : (xI X 4 9).toInt = h := hh1
    rw [n_sub] <;> rw [e1, q] <;> (have := hH.2.2.1; omega)
  have hm2 : (xI X 4 9 - 1 - 1).toInt = (h : Int) - 2 := by
    have e1 : (1 : Int32).toInt = 1 := rfl
    rw [n_sub] <;> rw [hm1, e1] <;> (have := hH.2.2.1; omega)
  have hne0 : (xI X 14 6).toInt = 0 → nEnd h X = h := fun z => by unfold nEnd; rw [if_pos z]
  have hne1 : ¬ (xI X 14 6).toInt = 0 → nEnd h X = h - 1 := fun z => by unfold nEnd; rw [if_neg z]
  have hh0 := hH.2.2.2.2.2.1
  have hht := hH.2.2.1
  have hcl := clp (x := a0)
  have hcl1 := clp (x := a1)
  have h55 : 0 ≤ a0.toInt → a0.toInt < 4000 → (a0.toNatClampNeg < nEnd h X → (xI X 55 a0.toNatClampNeg).toInt = 1) ∧ (¬ a0.toNatClampNeg < nEnd h X → (xI X 55 a0.toNatClampNeg).toInt = 0) := fun q1 q2 => by
    have q3 := clp q1
    have e := c9 a0.toNatClampNeg (by omega)
    refine ⟨fun z => ?_, fun z => ?_⟩
    · rw [e, if_pos z]; rfl
    · rw [e, if_neg z]; rfl
  have hsh : shp tb0 X rid = (1, len) := c4
  have h54 : a0.toNatClampNeg < nEnd h X → (xI X 54 a0.toNatClampNeg).toInt = 0 ∨ (xI X 54 a0.toNatClampNeg).toInt = 1 := fun z => b_toInt (c8 _ z).2.2.2.2
  simp only [Int32.lt_iff_toInt_lt, Int32.le_iff_toInt_le, ← Int32.toInt_inj, u2_ap, reduceIte, Nat.reduceEqDiff, xI, xJ, xR, xS, xN, li_0, li_1, li_2, li_3, li_4, li_5, li_6, li_7, li_8, li_9, li_10, li_11, li_12, li_13, li_14, li_15, li_16, li_20, li_34, li_40, li_50, li_59, li_60, li_64, li_99, li_100, li_200, li_500, li_1439, li_1440, li_3840, li_4000, li_10000, li_60000, li_1000000, li_m1, li_min, ck_0, ck_1, ck_2, ck_3, ck_4] at hm1 hm2 hne0 hne1 hh0 h55 h54
  repeat' (first
    | with_reducible refine i_L_receipt ?_
    | with_reducible refine e_L_receipt_17 ?_
    | with_reducible refine e_L_receipt_15 ?_
    | with_reducible refine i_X11_receipt ?_
    | with_reducible refine e_X11_receipt_19 ?_
    | with_reducible refine e_X11_receipt_23 ?_
    | with_reducible refine e_X11_receipt_48 ?_
    | with_reducible refine e_X11_receipt_49 ?_
    | with_reducible refine i_X12_receipt ?_
    | with_reducible refine e_X12_receipt_39 ?_
    | with_reducible refine e_X12_receipt_40 ?_
    | with_reducible refine e_X12_receipt_49 ?_
    | with_reducible refine e_X12_receipt_62 ?_
    | with_reducible refine e_X12_receipt_104 ?_
    | with_reducible refine e_X12_receipt_76 ?_
    | with_reducible refine e_X12_receipt_90 ?_
    | with_reducible refine e_X12_receipt_103 ?_
    | with_reducible refine s_right1 ?_
    | with_reducible refine s_right0 (by decide) ?_
    | (with_reducible refine s_rightb (by decide) ?_ ?_ ?_)
    | (show Int32.toInt _ = 0 ∨ Int32.toInt _ = 1; simp only [Int32.lt_iff_toInt_lt, Int32.le_iff_toInt_le, ← Int32.toInt_inj, u2_ap, reduceIte, Nat.reduceEqDiff, xI, xJ, xR, xS, xN, li_0, li_1, li_2, li_3, li_4, li_5, li_6, li_7, li_8, li_9, li_10, li_11, li_12, li_13, li_14, li_15, li_16, li_20, li_34, li_40, li_50, li_59, li_60, li_64, li_99, li_100, li_200, li_500, li_1439, li_1440, li_3840, li_4000, li_10000, li_60000, li_1000000, li_m1, li_min, ck_0, ck_1, ck_2, ck_3, ck_4] <;> omega)
    | (rw [c1]; refine onS_in ?_; rw [hsh]; refine gd_in rfl ?_)
    | (refine And.intro (vp_in_iff.mpr (by rw [(ix4 (a := a0) (b := a1) (by omega) (by omega) (by omega) (by omega)).1]; constructor <;> omega)) ?_)
    | with_reducible refine s_isFrom ?_ ?_
    | with_reducible refine s_demand1 ?_
    | with_reducible refine s_demand0 ?_
    | with_reducible refine s_demandSuch1 ?_
    | with_reducible refine s_demandSuch0 ?_
    | with_reducible refine s_demandState1 ?_
    | with_reducible refine s_demandState0 ?_
    | with_reducible refine s_demandPlace ?_ ?_
    | with_reducible refine s_refuse ?_ ?_
    | (with_reducible refine s_hired ?hb ?_ ?_; case hb => assumption)
    | with_reducible refine s_right1 ?_
    | with_reducible refine s_right0 (by decide) ?_
    | with_reducible refine s_thrown ?_
    | with_reducible refine rI_in ?_
    | with_reducible refine rV_in ?_
    | with_reducible refine rL_in ?_
    | with_reducible refine rR_in ?_
    | with_reducible refine ite_t rfl ?_
    | with_reducible refine ite_f (by decide) ?_
    | with_reducible refine gd_in (by decide) ?_
    | with_reducible refine or0_and ?_
    | with_reducible refine or1_and ?_
    | with_reducible refine br_t (by decide) ?_
    | with_reducible refine br_f (by decide) ?_
    | with_reducible refine br_t2 (by decide) ?_
    | with_reducible refine br_f2 (by decide) ?_
    | (with_reducible refine vin_and ?hv ?_; case hv => first | omega | (simp only [Int32.lt_iff_toInt_lt, Int32.le_iff_toInt_le, ← Int32.toInt_inj, u2_ap, reduceIte, Nat.reduceEqDiff, xI, xJ, xR, xS, xN, li_0, li_1, li_2, li_3, li_4, li_5, li_6, li_7, li_8, li_9, li_10, li_11, li_12, li_13, li_14, li_15, li_16, li_20, li_34, li_40, li_50, li_59, li_60, li_64, li_99, li_100, li_200, li_500, li_1439, li_1440, li_3840, li_4000, li_10000, li_60000, li_1000000, li_m1, li_min, ck_0, ck_1, ck_2, ck_3, ck_4] at * <;> omega))
    | (with_reducible refine ne_and ?hv ?_; case hv => decide)
    | (refine hK _ _ (SamS.mk rfl rfl) (fun K2 KX2 hK2 => ?_); try dsimp only [xI, xJ, xR, xS, xN])
    | (with_reducible refine hK2 _ _ ?_; try dsimp only [xI, xJ, xR, xS, xN])
    | exact fin_thr H (by assumption) _ (by decide)
    | exact finL_thr H (by assumption) _ (by decide)
    | exact finB_thr H (by assumption) (by decide)
    | ((with_reducible refine br_s (fun c => ?_) (fun c => ?_)) <;> (try simp only [Int32.lt_iff_toInt_lt, Int32.le_iff_toInt_le, ← Int32.toInt_inj, u2_ap, reduceIte, Nat.reduceEqDiff, xI, xJ, xR, xS, xN, li_0, li_1, li_2, li_3, li_4, li_5, li_6, li_7, li_8, li_9, li_10, li_11, li_12, li_13, li_14, li_15, li_16, li_20, li_34, li_40, li_50, li_59, li_60, li_64, li_99, li_100, li_200, li_500, li_1439, li_1440, li_3840, li_4000, li_10000, li_60000, li_1000000, li_m1, li_min, ck_0, ck_1, ck_2, ck_3, ck_4] at c) <;> (try (exfalso; omega)))
    | ((with_reducible refine br_s2 (fun c => ?_) (fun c => ?_)) <;> (try simp only [Int32.lt_iff_toInt_lt, Int32.le_iff_toInt_le, ← Int32.toInt_inj, u2_ap, reduceIte, Nat.reduceEqDiff, xI, xJ, xR, xS, xN, li_0, li_1, li_2, li_3, li_4, li_5, li_6, li_7, li_8, li_9, li_10, li_11, li_12, li_13, li_14, li_15, li_16, li_20, li_34, li_40, li_50, li_59, li_60, li_64, li_99, li_100, li_200, li_500, li_1439, li_1440, li_3840, li_4000, li_10000, li_60000, li_1000000, li_m1, li_min, ck_0, ck_1, ck_2, ck_3, ck_4] at c) <;> (try (exfalso; omega)))
    | (intro c; (try simp only [Int32.lt_iff_toInt_lt, Int32.le_iff_toInt_le, ← Int32.toInt_inj, u2_ap, reduceIte, Nat.reduceEqDiff, xI, xJ, xR, xS, xN, li_0, li_1, li_2, li_3, li_4, li_5, li_6, li_7, li_8, li_9, li_10, li_11, li_12, li_13, li_14, li_15, li_16, li_20, li_34, li_40, li_50, li_59, li_60, li_64, li_99, li_100, li_200, li_500, li_1439, li_1440, li_3840, li_4000, li_10000, li_60000, li_1000000, li_m1, li_min, ck_0, ck_1, ck_2, ck_3, ck_4] at c) <;> (try (exfalso; omega))))
  all_goals (
    obtain ⟨e1, e2⟩ := ix4 (a := a0) (b := a1) (by omega) (by omega) (by omega) (by omega)
    obtain ⟨d0, d1, d2, d3, d4⟩ := c8 a0.toNatClampNeg (by omega)
    refine fin_read H (congrArg Int32.toInt64 ?_)
    show xI X rid (a0 * 4 + a1).toNatClampNeg = _
    rw [e2]
    first
    | (have k : a1.toNatClampNeg = 0 := by omega
       rw [k]; exact d0)
    | (have k : a1.toNatClampNeg = 1 := by omega
       rw [k]; exact d1)
    | (have k : a1.toNatClampNeg = 2 := by omega
       rw [k]; exact d2)
    | (have k : a1.toNatClampNeg = 3 := by omega
       rw [k, d3]; exact Int32.toInt_inj.mp (by show (X.2.1 54 a0.toNatClampNeg).toInt = _; rw [li_0]; omega))
    | (have k : a1.toNatClampNeg = 3 := by omega
       rw [k, d3]; exact Int32.toInt_inj.mp (by show (X.2.1 54 a0.toNatClampNeg).toInt = _; rw [li_1]; omega))
  )
end Ops
