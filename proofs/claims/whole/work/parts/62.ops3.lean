/-! calls of reading -/
theorem ck_0 : Int32.toNatClampNeg 0 = 0 := by decide
theorem ck_1 : Int32.toNatClampNeg 1 = 1 := by decide
theorem ck_2 : Int32.toNatClampNeg 2 = 2 := by decide
theorem ck_3 : Int32.toNatClampNeg 3 = 3 := by decide
theorem ck_4 : Int32.toNatClampNeg 4 = 4 := by decide
section Ops
variable {L : Nat} {xs : Nat → Int32} {t n s h l : Nat} {X : AX} {K : Option AV → AX → Prop} {KX : String → AX → Prop}
theorem rlG_h {X : AX} {t n h : Nat} (hH : rlH t h X) (hG : rlG t n h X) (q : 0 < h) : mNum t 15 0 X ∧ mTar n 15 0 X ∧ mHand n 15 0 X ∧ mDark 15 0 X ∧ (∃ T B, mFrac 15 0 T B X) ∧ xR X 14 4 = xR X 8 (xI X 63 0).toNatClampNeg := by
  rcases b_toInt hH.2.2.2.2.1 with e | e
  · obtain ⟨a1, a2, a3, a4, a5, a6, -⟩ := hG.2.1 e q
    exact ⟨a1, a2, a3, a4, a5, a6⟩
  · obtain ⟨⟨a1, a2, -, a3, a4, T, B, a5, -⟩, -, -, -, a6, -⟩ := hG.1 e
    exact ⟨a1, a2, a3, a4, ⟨T, B, a5⟩, a6⟩
theorem finL_rd {b v : Int64} (H : Rel L xs t n s h l X) (e : v = b) : FinL L xs t 0 b (xS X, u2 (xI X) 42 0 0, u2 (xJ X) 91 0 v, xR X, xN X) := by
  subst e; exact finL_read H
set_option maxHeartbeats 4000000 in
theorem op_fare (ht : t < 600) (H : Rel L xs t n s h l X) (hK : ∀ c X1, SamS X X1 → (∀ K2 KX2, (∀ b X4, FinL L xs t c b X4 → K2 (some (vL b)) X4) → w_X12_fare tb0 [vR (some 42)] X1 K2 KX2) → K (some (vI c)) X1) : w_L_fare tb0 [vR (some 4), vR (some 91)] X K KX := by
  obtain ⟨hS, hW, hR, hT, hL, hE, hKk, hH, hC, hG⟩ := id H
  have hh1 : (xI X 4 9).toInt = h := by rw [hH.1, nI_toInt (by have := hH.2.2.1; omega)]
  have hh2 : (xI X 42 7).toInt = h := by rw [hH.2.1, nI_toInt (by have := hH.2.2.1; omega)]
  simp only [Int32.lt_iff_toInt_lt, Int32.le_iff_toInt_le, ← Int32.toInt_inj, u2_ap, reduceIte, Nat.reduceEqDiff, xI, xJ, xR, xS, xN, li_0, li_1, li_2, li_3, li_4, li_5, li_6, li_7, li_8, li_9, li_10, li_11, li_12, li_13, li_14, li_15, li_16, li_20, li_34, li_40, li_50, li_59, li_60, li_64, li_99, li_100, li_200, li_500, li_1439, li_1440, li_3840, li_4000, li_10000, li_60000, li_1000000, li_m1, li_min, ck_0, ck_1, ck_2, ck_3, ck_4] at hh1 hh2
  repeat' (first
    | with_reducible refine i_L_fare ?_
    | with_reducible refine e_L_fare_13 ?_
    | with_reducible refine e_L_fare_11 ?_
    | with_reducible refine i_X11_fare ?_
    | with_reducible refine e_X11_fare_11 ?_
    | with_reducible refine e_X11_fare_12 ?_
    | with_reducible refine i_X12_fare ?_
    | with_reducible refine e_X12_fare_21 ?_
    | with_reducible refine e_X12_fare_22 ?_
    | with_reducible refine i_X12_was ?_
    | with_reducible refine e_X12_was_12 ?_
    | with_reducible refine e_X12_was_13 ?_
    | with_reducible refine s_isFrom ?_ ?_
    | with_reducible refine s_demand1 ?_
    | with_reducible refine s_demand0 ?_
    | with_reducible refine s_demandSuch1 ?_
    | with_reducible refine s_demandSuch0 ?_
    | with_reducible refine s_demandState1 ?_
    | with_reducible refine s_demandState0 ?_
    | with_reducible refine s_demandPlace ?_ ?_
    | with_reducible refine s_refuse ?_ ?_
    | (with_reducible refine s_hired ?hb ?_ ?_; case hb => assumption)
    | with_reducible refine s_right1 ?_
    | with_reducible refine s_right0 (by decide) ?_
    | with_reducible refine s_thrown ?_
    | with_reducible refine rI_in ?_
    | with_reducible refine rV_in ?_
    | with_reducible refine rL_in ?_
    | with_reducible refine rR_in ?_
    | with_reducible refine ite_t rfl ?_
    | with_reducible refine ite_f (by decide) ?_
    | with_reducible refine gd_in (by decide) ?_
    | with_reducible refine or0_and ?_
    | with_reducible refine or1_and ?_
    | with_reducible refine br_t (by decide) ?_
    | with_reducible refine br_f (by decide) ?_
    | with_reducible refine br_t2 (by decide) ?_
    | with_reducible refine br_f2 (by decide) ?_
    | (with_reducible refine vin_and ?hv ?_; case hv => first | omega | (simp only [Int32.lt_iff_toInt_lt, Int32.le_iff_toInt_le, ← Int32.toInt_inj, u2_ap, reduceIte, Nat.reduceEqDiff, xI, xJ, xR, xS, xN, li_0, li_1, li_2, li_3, li_4, li_5, li_6, li_7, li_8, li_9, li_10, li_11, li_12, li_13, li_14, li_15, li_16, li_20, li_34, li_40, li_50, li_59, li_60, li_64, li_99, li_100, li_200, li_500, li_1439, li_1440, li_3840, li_4000, li_10000, li_60000, li_1000000, li_m1, li_min, ck_0, ck_1, ck_2, ck_3, ck_4] at * <;> omega))
    | (with_reducible refine ne_and ?hv ?_; case hv => decide)
    | (refine hK _ _ (SamS.mk rfl rfl) (fun K2 KX2 hK2 => ?_); try dsimp only [xI, xJ, xR, xS, xN])
    | (with_reducible refine hK2 _ _ ?_; try dsimp only [xI, xJ, xR, xS, xN])
    | exact fin_thr H (by assumption) _ (by decide)
    | exact finL_thr H (by assumption) _ (by decide)
    | exact finB_thr H (by assumption) (by decide)
    | ((with_reducible refine br_s (fun c => ?_) (fun c => ?_)) <;> (try simp only [Int32.lt_iff_toInt_lt, Int32.le_iff_toInt_le, ← Int32.toInt_inj, u2_ap, reduceIte, Nat.reduceEqDiff, xI, xJ, xR, xS, xN, li_0, li_1, li_2, li_3, li_4, li_5, li_6, li_7, li_8, li_9, li_10, li_11, li_12, li_13, li_14, li_15, li_16, li_20, li_34, li_40, li_50, li_59, li_60, li_64, li_99, li_100, li_200, li_500, li_1439, li_1440, li_3840, li_4000, li_10000, li_60000, li_1000000, li_m1, li_min, ck_0, ck_1, ck_2, ck_3, ck_4] at c) <;> (try (exfalso; omega)))
    | ((with_reducible refine br_s2 (fun c => ?_) (fun c => ?_)) <;> (try simp only [Int32.lt_iff_toInt_lt, Int32.le_iff_toInt_le, ← Int32.toInt_inj, u2_ap, reduceIte, Nat.reduceEqDiff, xI, xJ, xR, xS, xN, li_0, li_1, li_2, li_3, li_4, li_5, li_6, li_7, li_8, li_9, li_10, li_11, li_12, li_13, li_14, li_15, li_16, li_20, li_34, li_40, li_50, li_59, li_60, li_64, li_99, li_100, li_200, li_500, li_1439, li_1440, li_3840, li_4000, li_10000, li_60000, li_1000000, li_m1, li_min, ck_0, ck_1, ck_2, ck_3, ck_4] at c) <;> (try (exfalso; omega)))
    | (intro c; (try simp only [Int32.lt_iff_toInt_lt, Int32.le_iff_toInt_le, ← Int32.toInt_inj, u2_ap, reduceIte, Nat.reduceEqDiff, xI, xJ, xR, xS, xN, li_0, li_1, li_2, li_3, li_4, li_5, li_6, li_7, li_8, li_9, li_10, li_11, li_12, li_13, li_14, li_15, li_16, li_20, li_34, li_40, li_50, li_59, li_60, li_64, li_99, li_100, li_200, li_500, li_1439, li_1440, li_3840, li_4000, li_10000, li_60000, li_1000000, li_m1, li_min, ck_0, ck_1, ck_2, ck_3, ck_4] at c) <;> (try (exfalso; omega))))
  exact finL_rd H (rlG_h hH hG (by omega)).1.2.2.2.2.2.2.2.2.1.symm
set_option maxHeartbeats 4000000 in
theorem op_error (ht : t < 600) (H : Rel L xs t n s h l X) (hK : ∀ c X1, SamS X X1 → (∀ K2 KX2, (∀ b X4, FinI L xs t c b X4 → K2 (some (vI b)) X4) → w_X12_error tb0 [vR (some 42)] X1 K2 KX2) → K (some (vI c)) X1) : w_L_error tb0 [vR (some 4), vR (some 91)] X K KX := by
  obtain ⟨hS, hW, hR, hT, hL, hE, hKk, hH, hC, hG⟩ := id H
  have hh1 : (xI X 4 9).toInt = h := by rw [hH.1, nI_toInt (by have := hH.2.2.1; omega)]
  have hh2 : (xI X 42 7).toInt = h := by rw [hH.2.1, nI_toInt (by have := hH.2.2.1; omega)]
  simp only [Int32.lt_iff_toInt_lt, Int32.le_iff_toInt_le, ← Int32.toInt_inj, u2_ap, reduceIte, Nat.reduceEqDiff, xI, xJ, xR, xS, xN, li_0, li_1, li_2, li_3, li_4, li_5, li_6, li_7, li_8, li_9, li_10, li_11, li_12, li_13, li_14, li_15, li_16, li_20, li_34, li_40, li_50, li_59, li_60, li_64, li_99, li_100, li_200, li_500, li_1439, li_1440, li_3840, li_4000, li_10000, li_60000, li_1000000, li_m1, li_min, ck_0, ck_1, ck_2, ck_3, ck_4] at hh1 hh2
  have hd1 := congrArg Int32.toInt hG.2.2.2.1
  have hd2 := b_toInt hG.2.2.2.2.1
  simp only [Int32.lt_iff_toInt_lt, Int32.le_iff_toInt_le, ← Int32.toInt_inj, u2_ap, reduceIte, Nat.reduceEqDiff, xI, xJ, xR, xS, xN, li_0, li_1, li_2, li_3, li_4, li_5, li_6, li_7, li_8, li_9, li_10, li_11, li_12, li_13, li_14, li_15, li_16, li_20, li_34, li_40, li_50, li_59, li_60, li_64, li_99, li_100, li_200, li_500, li_1439, li_1440, li_3840, li_4000, li_10000, li_60000, li_1000000, li_m1, li_min, ck_0, ck_1, ck_2, ck_3, ck_4] at hd1 hd2
  repeat' (first
    | with_reducible refine i_L_error ?_
    | with_reducible refine e_L_error_14 ?_
    | with_reducible refine e_L_error_12 ?_
    | with_reducible refine i_X11_error ?_
    | with_reducible refine e_X11_error_18 ?_
    | with_reducible refine e_X11_error_19 ?_
    | with_reducible refine i_X12_error ?_
    | with_reducible refine e_X12_error_24 ?_
    | with_reducible refine e_X12_error_25 ?_
    | with_reducible refine e_X12_error_48 ?_
    | with_reducible refine e_X12_error_49 ?_
    | with_reducible refine s_isFrom ?_ ?_
    | with_reducible refine s_demand1 ?_
    | with_reducible refine s_demand0 ?_
    | with_reducible refine s_demandSuch1 ?_
    | with_reducible refine s_demandSuch0 ?_
    | with_reducible refine s_demandState1 ?_
    | with_reducible refine s_demandState0 ?_
    | with_reducible refine s_demandPlace ?_ ?_
    | with_reducible refine s_refuse ?_ ?_
    | (with_reducible refine s_hired ?hb ?_ ?_; case hb => assumption)
    | with_reducible refine s_right1 ?_
    | with_reducible refine s_right0 (by decide) ?_
    | with_reducible refine s_thrown ?_
    | with_reducible refine rI_in ?_
    | with_reducible refine rV_in ?_
    | with_reducible refine rL_in ?_
    | with_reducible refine rR_in ?_
    | with_reducible refine ite_t rfl ?_
    | with_reducible refine ite_f (by decide) ?_
    | with_reducible refine gd_in (by decide) ?_
    | with_reducible refine or0_and ?_
    | with_reducible refine or1_and ?_
    | with_reducible refine br_t (by decide) ?_
    | with_reducible refine br_f (by decide) ?_
    | with_reducible refine br_t2 (by decide) ?_
    | with_reducible refine br_f2 (by decide) ?_
    | (with_reducible refine vin_and ?hv ?_; case hv => first | omega | (simp only [Int32.lt_iff_toInt_lt, Int32.le_iff_toInt_le, ← Int32.toInt_inj, u2_ap, reduceIte, Nat.reduceEqDiff, xI, xJ, xR, xS, xN, li_0, li_1, li_2, li_3, li_4, li_5, li_6, li_7, li_8, li_9, li_10, li_11, li_12, li_13, li_14, li_15, li_16, li_20, li_34, li_40, li_50, li_59, li_60, li_64, li_99, li_100, li_200, li_500, li_1439, li_1440, li_3840, li_4000, li_10000, li_60000, li_1000000, li_m1, li_min, ck_0, ck_1, ck_2, ck_3, ck_4] at * <;> omega))
    | (with_reducible refine ne_and ?hv ?_; case hv => decide)
    | (refine hK _ _ (SamS.mk rfl rfl) (fun K2 KX2 hK2 => ?_); try dsimp only [xI, xJ, xR, xS, xN])
    | (with_reducible refine hK2 _ _ ?_; try dsimp only [xI, xJ, xR, xS, xN])
    | exact fin_thr H (by assumption) _ (by decide)
    | exact finL_thr H (by assumption) _ (by decide)
    | exact finB_thr H (by assumption) (by decide)
    | ((with_reducible refine br_s (fun c => ?_) (fun c => ?_)) <;> (try simp only [Int32.lt_iff_toInt_lt, Int32.le_iff_toInt_le, ← Int32.toInt_inj, u2_ap, reduceIte, Nat.reduceEqDiff, xI, xJ, xR, xS, xN, li_0, li_1, li_2, li_3, li_4, li_5, li_6, li_7, li_8, li_9, li_10, li_11, li_12, li_13, li_14, li_15, li_16, li_20, li_34, li_40, li_50, li_59, li_60, li_64, li_99, li_100, li_200, li_500, li_1439, li_1440, li_3840, li_4000, li_10000, li_60000, li_1000000, li_m1, li_min, ck_0, ck_1, ck_2, ck_3, ck_4] at c) <;> (try (exfalso; omega)))
    | ((with_reducible refine br_s2 (fun c => ?_) (fun c => ?_)) <;> (try simp only [Int32.lt_iff_toInt_lt, Int32.le_iff_toInt_le, ← Int32.toInt_inj, u2_ap, reduceIte, Nat.reduceEqDiff, xI, xJ, xR, xS, xN, li_0, li_1, li_2, li_3, li_4, li_5, li_6, li_7, li_8, li_9, li_10, li_11, li_12, li_13, li_14, li_15, li_16, li_20, li_34, li_40, li_50, li_59, li_60, li_64, li_99, li_100, li_200, li_500, li_1439, li_1440, li_3840, li_4000, li_10000, li_60000, li_1000000, li_m1, li_min, ck_0, ck_1, ck_2, ck_3, ck_4] at c) <;> (try (exfalso; omega)))
    | (intro c; (try simp only [Int32.lt_iff_toInt_lt, Int32.le_iff_toInt_le, ← Int32.toInt_inj, u2_ap, reduceIte, Nat.reduceEqDiff, xI, xJ, xR, xS, xN, li_0, li_1, li_2, li_3, li_4, li_5, li_6, li_7, li_8, li_9, li_10, li_11, li_12, li_13, li_14, li_15, li_16, li_20, li_34, li_40, li_50, li_59, li_60, li_64, li_99, li_100, li_200, li_500, li_1439, li_1440, li_3840, li_4000, li_10000, li_60000, li_1000000, li_m1, li_min, ck_0, ck_1, ck_2, ck_3, ck_4] at c) <;> (try (exfalso; omega))))
  have e1 := (rlG_h hH hG (by omega)).1.2.2.2.2.2.2.2.2.2.1
  have e0 : xI X 4 16 = 1 := Int32.toInt_inj.mp (by show (X.2.1 4 16).toInt = (1 : Int32).toInt; rw [li_1]; omega)
  have e2 := (hG.2.2.2.2.2 e0).1.1
  refine fin_read H (congrArg Int32.toInt64 ?_)
  show xI X 15 7 - xI X 37 7 = xI X 67 0 - xI X 67 4
  rw [e1, e2]
set_option maxHeartbeats 4000000 in
theorem op_dark {a0 : Int32} (ht : t < 600) (H : Rel L xs t n s h l X) (hK : ∀ c X1, SamS X X1 → (∀ K2 KX2, (∀ b X4, FinI L xs t c b X4 → K2 (some (vI b)) X4) → w_X12_dark tb0 [vR (some 42), vI a0] X1 K2 KX2) → K (some (vI c)) X1) : w_L_dark tb0 [vR (some 4), vI a0, vR (some 91)] X K KX := by
  obtain ⟨hS, hW, hR, hT, hL, hE, hKk, hH, hC, hG⟩ := id H
  have hh1 : (xI X 4 9).toInt = h := by rw [hH.1, nI_toInt (by have := hH.2.2.1; omega)]
  have hh2 : (xI X 42 7).toInt = h := by rw [hH.2.1, nI_toInt (by have := hH.2.2.1; omega)]
  simp only [Int32.lt_iff_toInt_lt, Int32.le_iff_toInt_le, ← Int32.toInt_inj, u2_ap, reduceIte, Nat.reduceEqDiff, xI, xJ, xR, xS, xN, li_0, li_1, li_2, li_3, li_4, li_5, li_6, li_7, li_8, li_9, li_10, li_11, li_12, li_13, li_14, li_15, li_16, li_20, li_34, li_40, li_50, li_59, li_60, li_64, li_99, li_100, li_200, li_500, li_1439, li_1440, li_3840, li_4000, li_10000, li_60000, li_1000000, li_m1, li_min, ck_0, ck_1, ck_2, ck_3, ck_4] at hh1 hh2
  have hdk : 0 < h → (xI X 15 13 - 1).toInt = (xI X 15 13).toInt - 1 ∧ (xI X 69 0).toInt = (xI X 15 13).toInt ∧ 0 ≤ (xI X 15 13).toInt ∧ (xI X 15 13).toInt ≤ 3840 := fun q => by
    obtain ⟨a1, -⟩ := rlG_h hH hG q
    obtain ⟨-, -, -, -, -, a6, -, -, -, -, -, -, -, -, -, -, -, a18, a19, a20, -⟩ := a1
    have e1 : (1 : Int32).toInt = 1 := rfl
    exact ⟨by rw [n_sub] <;> rw [e1] <;> (have := a6.2; omega), congrArg Int32.toInt a18, a19, Int.le_trans a20 a6.2⟩
  have hcl := clp (x := a0)
  have h00 : (0 : Int32) + a0 = a0 := Int32.zero_add a0
  simp only [Int32.lt_iff_toInt_lt, Int32.le_iff_toInt_le, ← Int32.toInt_inj, u2_ap, reduceIte, Nat.reduceEqDiff, xI, xJ, xR, xS, xN, li_0, li_1, li_2, li_3, li_4, li_5, li_6, li_7, li_8, li_9, li_10, li_11, li_12, li_13, li_14, li_15, li_16, li_20, li_34, li_40, li_50, li_59, li_60, li_64, li_99, li_100, li_200, li_500, li_1439, li_1440, li_3840, li_4000, li_10000, li_60000, li_1000000, li_m1, li_min, ck_0, ck_1, ck_2, ck_3, ck_4] at hdk
  repeat' (first
    | with_reducible refine i_L_dark ?_
    | with_reducible refine e_L_dark_15 ?_
    | with_reducible refine e_L_dark_13 ?_
    | with_reducible refine i_X11_dark ?_
    | with_reducible refine e_X11_dark_31 ?_
    | with_reducible refine e_X11_dark_32 ?_
    | with_reducible refine i_X12_dark ?_
    | with_reducible refine e_X12_dark_50 ?_
    | with_reducible refine e_X12_dark_31 ?_
    | with_reducible refine e_X12_dark_32 ?_
    | with_reducible refine e_X12_dark_51 ?_
    | with_reducible refine i_X12_was ?_
    | with_reducible refine e_X12_was_12 ?_
    | with_reducible refine e_X12_was_13 ?_
    | (rw [h00])
    | with_reducible refine s_isFrom ?_ ?_
    | with_reducible refine s_demand1 ?_
    | with_reducible refine s_demand0 ?_
    | with_reducible refine s_demandSuch1 ?_
    | with_reducible refine s_demandSuch0 ?_
    | with_reducible refine s_demandState1 ?_
    | with_reducible refine s_demandState0 ?_
    | with_reducible refine s_demandPlace ?_ ?_
    | with_reducible refine s_refuse ?_ ?_
    | (with_reducible refine s_hired ?hb ?_ ?_; case hb => assumption)
    | with_reducible refine s_right1 ?_
    | with_reducible refine s_right0 (by decide) ?_
    | with_reducible refine s_thrown ?_
    | with_reducible refine rI_in ?_
    | with_reducible refine rV_in ?_
    | with_reducible refine rL_in ?_
    | with_reducible refine rR_in ?_
    | with_reducible refine ite_t rfl ?_
    | with_reducible refine ite_f (by decide) ?_
    | with_reducible refine gd_in (by decide) ?_
    | with_reducible refine or0_and ?_
    | with_reducible refine or1_and ?_
    | with_reducible refine br_t (by decide) ?_
    | with_reducible refine br_f (by decide) ?_
    | with_reducible refine br_t2 (by decide) ?_
    | with_reducible refine br_f2 (by decide) ?_
    | (with_reducible refine vin_and ?hv ?_; case hv => first | omega | (simp only [Int32.lt_iff_toInt_lt, Int32.le_iff_toInt_le, ← Int32.toInt_inj, u2_ap, reduceIte, Nat.reduceEqDiff, xI, xJ, xR, xS, xN, li_0, li_1, li_2, li_3, li_4, li_5, li_6, li_7, li_8, li_9, li_10, li_11, li_12, li_13, li_14, li_15, li_16, li_20, li_34, li_40, li_50, li_59, li_60, li_64, li_99, li_100, li_200, li_500, li_1439, li_1440, li_3840, li_4000, li_10000, li_60000, li_1000000, li_m1, li_min, ck_0, ck_1, ck_2, ck_3, ck_4] at * <;> omega))
    | (with_reducible refine ne_and ?hv ?_; case hv => decide)
    | (refine hK _ _ (SamS.mk rfl rfl) (fun K2 KX2 hK2 => ?_); try dsimp only [xI, xJ, xR, xS, xN])
    | (with_reducible refine hK2 _ _ ?_; try dsimp only [xI, xJ, xR, xS, xN])
    | exact fin_thr H (by assumption) _ (by decide)
    | exact finL_thr H (by assumption) _ (by decide)
    | exact finB_thr H (by assumption) (by decide)
    | ((with_reducible refine br_s (fun c => ?_) (fun c => ?_)) <;> (try simp only [Int32.lt_iff_toInt_lt, Int32.le_iff_toInt_le, ← Int32.toInt_inj, u2_ap, reduceIte, Nat.reduceEqDiff, xI, xJ, xR, xS, xN, li_0, li_1, li_2, li_3, li_4, li_5, li_6, li_7, li_8, li_9, li_10, li_11, li_12, li_13, li_14, li_15, li_16, li_20, li_34, li_40, li_50, li_59, li_60, li_64, li_99, li_100, li_200, li_500, li_1439, li_1440, li_3840, li_4000, li_10000, li_60000, li_1000000, li_m1, li_min, ck_0, ck_1, ck_2, ck_3, ck_4] at c) <;> (try (exfalso; omega)))
    | ((with_reducible refine br_s2 (fun c => ?_) (fun c => ?_)) <;> (try simp only [Int32.lt_iff_toInt_lt, Int32.le_iff_toInt_le, ← Int32.toInt_inj, u2_ap, reduceIte, Nat.reduceEqDiff, xI, xJ, xR, xS, xN, li_0, li_1, li_2, li_3, li_4, li_5, li_6, li_7, li_8, li_9, li_10, li_11, li_12, li_13, li_14, li_15, li_16, li_20, li_34, li_40, li_50, li_59, li_60, li_64, li_99, li_100, li_200, li_500, li_1439, li_1440, li_3840, li_4000, li_10000, li_60000, li_1000000, li_m1, li_min, ck_0, ck_1, ck_2, ck_3, ck_4] at c) <;> (try (exfalso; omega)))
    | (intro c; (try simp only [Int32.lt_iff_toInt_lt, Int32.le_iff_toInt_le, ← Int32.toInt_inj, u2_ap, reduceIte, Nat.reduceEqDiff, xI, xJ, xR, xS, xN, li_0, li_1, li_2, li_3, li_4, li_5, li_6, li_7, li_8, li_9, li_10, li_11, li_12, li_13, li_14, li_15, li_16, li_20, li_34, li_40, li_50, li_59, li_60, li_64, li_99, li_100, li_200, li_500, li_1439, li_1440, li_3840, li_4000, li_10000, li_60000, li_1000000, li_m1, li_min, ck_0, ck_1, ck_2, ck_3, ck_4] at c) <;> (try (exfalso; omega))))
  obtain ⟨-, -, -, a4, -⟩ := rlG_h hH hG (by omega)
  have e := a4 a0.toNatClampNeg (by
    have q := hdk (by omega)
    have w := clp (x := xI X 15 13) q.2.2.1
    have w' : (xI X 15 13).toInt = (X.2.1 15 13).toInt := rfl
    omega)
  rw [Nat.mul_zero, Nat.zero_add] at e
  exact fin_read H (congrArg Int32.toInt64 e.symm)
end Ops
