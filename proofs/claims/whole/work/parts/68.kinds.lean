/-! tariffs by their kinds -/
section Kinds
variable {X : AX} {K : Option AV → AX → Prop} {KX : String → AX → Prop} {d q : Nat} {a0 : Int32}
theorem s_h1 (h1 : 0 ≤ a0.toInt → a0.toInt ≤ 5 → K (some (vI 1)) X) (h0 : ¬ (0 ≤ a0.toInt ∧ a0.toInt ≤ 5) → K (some (vI 0)) X) : w_X1_has tb0 [vR (some d), vI a0] X K KX :=
  i_X1_has (s_isFrom (fun u v => rI_in ⟨Or.inr rfl, h1 (by simpa only [li_0] using u) (by simpa only [li_5] using v)⟩) (fun u => rI_in ⟨Or.inl rfl, h0 (by simpa only [li_0, li_5] using u)⟩))
set_option maxHeartbeats 4000000 in
theorem s_h0 (hd : 10 ≤ (shp tb0 X d).1) (h1 : (0 ≤ a0.toInt ∧ a0.toInt ≤ 5) ∨ a0.toInt = 14 → K (some (vI 1)) X) (h0 : ¬ ((0 ≤ a0.toInt ∧ a0.toInt ≤ 5) ∨ a0.toInt = 14) → K (some (vI 0)) X) : w_X0_has tb0 [vR (some d), vI a0] X K KX := by
  repeat' (first
    | with_reducible refine i_X0_has ?_
    | with_reducible refine e_X0_has_14 ?_
    | with_reducible refine e_X0_has_18 ?_
    | with_reducible refine e_X0_has_19 ?_
    | (with_reducible refine s_h1 ?_ ?_)
    | with_reducible refine gd_in hd ?_
    | exact h1 (by omega)
    | exact h0 (by omega)
    | with_reducible refine s_isFrom ?_ ?_
    | with_reducible refine s_demand1 ?_
    | with_reducible refine s_demand0 ?_
    | with_reducible refine s_demandSuch1 ?_
    | with_reducible refine s_demandSuch0 ?_
    | with_reducible refine s_demandState1 ?_
    | with_reducible refine s_demandState0 ?_
    | with_reducible refine s_demandPlace ?_ ?_
    | with_reducible refine s_refuse ?_ ?_
    | (with_reducible refine s_hired ?hb ?_ ?_; case hb => assumption)
    | with_reducible refine s_right1 ?_
    | with_reducible refine s_right0 (by decide) ?_
    | with_reducible refine s_thrown ?_
    | with_reducible refine rI_in ?_
    | with_reducible refine rV_in ?_
    | with_reducible refine rL_in ?_
    | with_reducible refine rR_in ?_
    | with_reducible refine ite_t rfl ?_
    | with_reducible refine ite_f (by decide) ?_
    | with_reducible refine gd_in (by decide) ?_
    | with_reducible refine or0_and ?_
    | with_reducible refine or1_and ?_
    | with_reducible refine br_t (by decide) ?_
    | with_reducible refine br_f (by decide) ?_
    | with_reducible refine br_t2 (by decide) ?_
    | with_reducible refine br_f2 (by decide) ?_
    | (with_reducible refine vin_and ?hv ?_; case hv => first | omega | (simp only [Int32.lt_iff_toInt_lt, Int32.le_iff_toInt_le, ← Int32.toInt_inj, u2_ap, reduceIte, Nat.reduceEqDiff, xI, xJ, xR, xS, xN, li_0, li_1, li_2, li_3, li_4, li_5, li_6, li_7, li_8, li_9, li_10, li_11, li_12, li_13, li_14, li_15, li_16, li_20, li_34, li_40, li_50, li_59, li_60, li_64, li_99, li_100, li_200, li_500, li_1439, li_1440, li_3840, li_4000, li_10000, li_60000, li_1000000, li_m1, li_min, ck_0, ck_1, ck_2, ck_3, ck_4] at * <;> omega))
    | (with_reducible refine ne_and ?hv ?_; case hv => decide)
    | ((with_reducible refine br_s (fun c => ?_) (fun c => ?_)) <;> (try simp only [Int32.lt_iff_toInt_lt, Int32.le_iff_toInt_le, ← Int32.toInt_inj, u2_ap, reduceIte, Nat.reduceEqDiff, xI, xJ, xR, xS, xN, li_0, li_1, li_2, li_3, li_4, li_5, li_6, li_7, li_8, li_9, li_10, li_11, li_12, li_13, li_14, li_15, li_16, li_20, li_34, li_40, li_50, li_59, li_60, li_64, li_99, li_100, li_200, li_500, li_1439, li_1440, li_3840, li_4000, li_10000, li_60000, li_1000000, li_m1, li_min, ck_0, ck_1, ck_2, ck_3, ck_4] at c) <;> (try (exfalso; omega)))
    | ((with_reducible refine br_s2 (fun c => ?_) (fun c => ?_)) <;> (try simp only [Int32.lt_iff_toInt_lt, Int32.le_iff_toInt_le, ← Int32.toInt_inj, u2_ap, reduceIte, Nat.reduceEqDiff, xI, xJ, xR, xS, xN, li_0, li_1, li_2, li_3, li_4, li_5, li_6, li_7, li_8, li_9, li_10, li_11, li_12, li_13, li_14, li_15, li_16, li_20, li_34, li_40, li_50, li_59, li_60, li_64, li_99, li_100, li_200, li_500, li_1439, li_1440, li_3840, li_4000, li_10000, li_60000, li_1000000, li_m1, li_min, ck_0, ck_1, ck_2, ck_3, ck_4] at c) <;> (try (exfalso; omega)))
    | ((with_reducible intro c); (try simp only [Int32.lt_iff_toInt_lt, Int32.le_iff_toInt_le, ← Int32.toInt_inj, u2_ap, reduceIte, Nat.reduceEqDiff, xI, xJ, xR, xS, xN, li_0, li_1, li_2, li_3, li_4, li_5, li_6, li_7, li_8, li_9, li_10, li_11, li_12, li_13, li_14, li_15, li_16, li_20, li_34, li_40, li_50, li_59, li_60, li_64, li_99, li_100, li_200, li_500, li_1439, li_1440, li_3840, li_4000, li_10000, li_60000, li_1000000, li_m1, li_min, ck_0, ck_1, ck_2, ck_3, ck_4] at c) <;> (try (exfalso; omega))))
set_option maxHeartbeats 4000000 in
theorem s_h2 (hd : 10 ≤ (shp tb0 X d).1) (h1 : (0 ≤ a0.toInt ∧ a0.toInt ≤ 5) ∨ (9 ≤ a0.toInt ∧ a0.toInt ≤ 10) → K (some (vI 1)) X) (h0 : ¬ ((0 ≤ a0.toInt ∧ a0.toInt ≤ 5) ∨ (9 ≤ a0.toInt ∧ a0.toInt ≤ 10)) → K (some (vI 0)) X) : w_X2_has tb0 [vR (some d), vI a0] X K KX := by
  repeat' (first
    | with_reducible refine i_X2_has ?_
    | with_reducible refine e_X2_has_19 ?_
    | with_reducible refine e_X2_has_23 ?_
    | with_reducible refine e_X2_has_24 ?_
    | (with_reducible refine s_h1 ?_ ?_)
    | with_reducible refine gd_in hd ?_
    | exact h1 (by omega)
    | exact h0 (by omega)
    | with_reducible refine s_isFrom ?_ ?_
    | with_reducible refine s_demand1 ?_
    | with_reducible refine s_demand0 ?_
    | with_reducible refine s_demandSuch1 ?_
    | with_reducible refine s_demandSuch0 ?_
    | with_reducible refine s_demandState1 ?_
    | with_reducible refine s_demandState0 ?_
    | with_reducible refine s_demandPlace ?_ ?_
    | with_reducible refine s_refuse ?_ ?_
    | (with_reducible refine s_hired ?hb ?_ ?_; case hb => assumption)
    | with_reducible refine s_right1 ?_
    | with_reducible refine s_right0 (by decide) ?_
    | with_reducible refine s_thrown ?_
    | with_reducible refine rI_in ?_
    | with_reducible refine rV_in ?_
    | with_reducible refine rL_in ?_
    | with_reducible refine rR_in ?_
    | with_reducible refine ite_t rfl ?_
    | with_reducible refine ite_f (by decide) ?_
    | with_reducible refine gd_in (by decide) ?_
    | with_reducible refine or0_and ?_
    | with_reducible refine or1_and ?_
    | with_reducible refine br_t (by decide) ?_
    | with_reducible refine br_f (by decide) ?_
    | with_reducible refine br_t2 (by decide) ?_
    | with_reducible refine br_f2 (by decide) ?_
    | (with_reducible refine vin_and ?hv ?_; case hv => first | omega | (simp only [Int32.lt_iff_toInt_lt, Int32.le_iff_toInt_le, ← Int32.toInt_inj, u2_ap, reduceIte, Nat.reduceEqDiff, xI, xJ, xR, xS, xN, li_0, li_1, li_2, li_3, li_4, li_5, li_6, li_7, li_8, li_9, li_10, li_11, li_12, li_13, li_14, li_15, li_16, li_20, li_34, li_40, li_50, li_59, li_60, li_64, li_99, li_100, li_200, li_500, li_1439, li_1440, li_3840, li_4000, li_10000, li_60000, li_1000000, li_m1, li_min, ck_0, ck_1, ck_2, ck_3, ck_4] at * <;> omega))
    | (with_reducible refine ne_and ?hv ?_; case hv => decide)
    | ((with_reducible refine br_s (fun c => ?_) (fun c => ?_)) <;> (try simp only [Int32.lt_iff_toInt_lt, Int32.le_iff_toInt_le, ← Int32.toInt_inj, u2_ap, reduceIte, Nat.reduceEqDiff, xI, xJ, xR, xS, xN, li_0, li_1, li_2, li_3, li_4, li_5, li_6, li_7, li_8, li_9, li_10, li_11, li_12, li_13, li_14, li_15, li_16, li_20, li_34, li_40, li_50, li_59, li_60, li_64, li_99, li_100, li_200, li_500, li_1439, li_1440, li_3840, li_4000, li_10000, li_60000, li_1000000, li_m1, li_min, ck_0, ck_1, ck_2, ck_3, ck_4] at c) <;> (try (exfalso; omega)))
    | ((with_reducible refine br_s2 (fun c => ?_) (fun c => ?_)) <;> (try simp only [Int32.lt_iff_toInt_lt, Int32.le_iff_toInt_le, ← Int32.toInt_inj, u2_ap, reduceIte, Nat.reduceEqDiff, xI, xJ, xR, xS, xN, li_0, li_1, li_2, li_3, li_4, li_5, li_6, li_7, li_8, li_9, li_10, li_11, li_12, li_13, li_14, li_15, li_16, li_20, li_34, li_40, li_50, li_59, li_60, li_64, li_99, li_100, li_200, li_500, li_1439, li_1440, li_3840, li_4000, li_10000, li_60000, li_1000000, li_m1, li_min, ck_0, ck_1, ck_2, ck_3, ck_4] at c) <;> (try (exfalso; omega)))
    | ((with_reducible intro c); (try simp only [Int32.lt_iff_toInt_lt, Int32.le_iff_toInt_le, ← Int32.toInt_inj, u2_ap, reduceIte, Nat.reduceEqDiff, xI, xJ, xR, xS, xN, li_0, li_1, li_2, li_3, li_4, li_5, li_6, li_7, li_8, li_9, li_10, li_11, li_12, li_13, li_14, li_15, li_16, li_20, li_34, li_40, li_50, li_59, li_60, li_64, li_99, li_100, li_200, li_500, li_1439, li_1440, li_3840, li_4000, li_10000, li_60000, li_1000000, li_m1, li_min, ck_0, ck_1, ck_2, ck_3, ck_4] at c) <;> (try (exfalso; omega))))
set_option maxHeartbeats 4000000 in
theorem s_h6 (hd : 10 ≤ (shp tb0 X d).1) (h1 : (0 ≤ a0.toInt ∧ a0.toInt ≤ 5) ∨ (6 ≤ a0.toInt ∧ a0.toInt ≤ 8) → K (some (vI 1)) X) (h0 : ¬ ((0 ≤ a0.toInt ∧ a0.toInt ≤ 5) ∨ (6 ≤ a0.toInt ∧ a0.toInt ≤ 8)) → K (some (vI 0)) X) : w_X6_has tb0 [vR (some d), vI a0] X K KX := by
  repeat' (first
    | with_reducible refine i_X6_has ?_
    | with_reducible refine e_X6_has_19 ?_
    | with_reducible refine e_X6_has_23 ?_
    | with_reducible refine e_X6_has_24 ?_
    | (with_reducible refine s_h1 ?_ ?_)
    | with_reducible refine gd_in hd ?_
    | exact h1 (by omega)
    | exact h0 (by omega)
    | with_reducible refine s_isFrom ?_ ?_
    | with_reducible refine s_demand1 ?_
    | with_reducible refine s_demand0 ?_
    | with_reducible refine s_demandSuch1 ?_
    | with_reducible refine s_demandSuch0 ?_
    | with_reducible refine s_demandState1 ?_
    | with_reducible refine s_demandState0 ?_
    | with_reducible refine s_demandPlace ?_ ?_
    | with_reducible refine s_refuse ?_ ?_
    | (with_reducible refine s_hired ?hb ?_ ?_; case hb => assumption)
    | with_reducible refine s_right1 ?_
    | with_reducible refine s_right0 (by decide) ?_
    | with_reducible refine s_thrown ?_
    | with_reducible refine rI_in ?_
    | with_reducible refine rV_in ?_
    | with_reducible refine rL_in ?_
    | with_reducible refine rR_in ?_
    | with_reducible refine ite_t rfl ?_
    | with_reducible refine ite_f (by decide) ?_
    | with_reducible refine gd_in (by decide) ?_
    | with_reducible refine or0_and ?_
    | with_reducible refine or1_and ?_
    | with_reducible refine br_t (by decide) ?_
    | with_reducible refine br_f (by decide) ?_
    | with_reducible refine br_t2 (by decide) ?_
    | with_reducible refine br_f2 (by decide) ?_
    | (with_reducible refine vin_and ?hv ?_; case hv => first | omega | (simp only [Int32.lt_iff_toInt_lt, Int32.le_iff_toInt_le, ← Int32.toInt_inj, u2_ap, reduceIte, Nat.reduceEqDiff, xI, xJ, xR, xS, xN, li_0, li_1, li_2, li_3, li_4, li_5, li_6, li_7, li_8, li_9, li_10, li_11, li_12, li_13, li_14, li_15, li_16, li_20, li_34, li_40, li_50, li_59, li_60, li_64, li_99, li_100, li_200, li_500, li_1439, li_1440, li_3840, li_4000, li_10000, li_60000, li_1000000, li_m1, li_min, ck_0, ck_1, ck_2, ck_3, ck_4] at * <;> omega))
    | (with_reducible refine ne_and ?hv ?_; case hv => decide)
    | ((with_reducible refine br_s (fun c => ?_) (fun c => ?_)) <;> (try simp only [Int32.lt_iff_toInt_lt, Int32.le_iff_toInt_le, ← Int32.toInt_inj, u2_ap, reduceIte, Nat.reduceEqDiff, xI, xJ, xR, xS, xN, li_0, li_1, li_2, li_3, li_4, li_5, li_6, li_7, li_8, li_9, li_10, li_11, li_12, li_13, li_14, li_15, li_16, li_20, li_34, li_40, li_50, li_59, li_60, li_64, li_99, li_100, li_200, li_500, li_1439, li_1440, li_3840, li_4000, li_10000, li_60000, li_1000000, li_m1, li_min, ck_0, ck_1, ck_2, ck_3, ck_4] at c) <;> (try (exfalso; omega)))
    | ((with_reducible refine br_s2 (fun c => ?_) (fun c => ?_)) <;> (try simp only [Int32.lt_iff_toInt_lt, Int32.le_iff_toInt_le, ← Int32.toInt_inj, u2_ap, reduceIte, Nat.reduceEqDiff, xI, xJ, xR, xS, xN, li_0, li_1, li_2, li_3, li_4, li_5, li_6, li_7, li_8, li_9, li_10, li_11, li_12, li_13, li_14, li_15, li_16, li_20, li_34, li_40, li_50, li_59, li_60, li_64, li_99, li_100, li_200, li_500, li_1439, li_1440, li_3840, li_4000, li_10000, li_60000, li_1000000, li_m1, li_min, ck_0, ck_1, ck_2, ck_3, ck_4] at c) <;> (try (exfalso; omega)))
    | ((with_reducible intro c); (try simp only [Int32.lt_iff_toInt_lt, Int32.le_iff_toInt_le, ← Int32.toInt_inj, u2_ap, reduceIte, Nat.reduceEqDiff, xI, xJ, xR, xS, xN, li_0, li_1, li_2, li_3, li_4, li_5, li_6, li_7, li_8, li_9, li_10, li_11, li_12, li_13, li_14, li_15, li_16, li_20, li_34, li_40, li_50, li_59, li_60, li_64, li_99, li_100, li_200, li_500, li_1439, li_1440, li_3840, li_4000, li_10000, li_60000, li_1000000, li_m1, li_min, ck_0, ck_1, ck_2, ck_3, ck_4] at c) <;> (try (exfalso; omega))))
set_option maxHeartbeats 4000000 in
theorem s_h3 (hd : 10 ≤ (shp tb0 X d).1) (h1 : (0 ≤ a0.toInt ∧ a0.toInt ≤ 5) ∨ (9 ≤ a0.toInt ∧ a0.toInt ≤ 13) → K (some (vI 1)) X) (h0 : ¬ ((0 ≤ a0.toInt ∧ a0.toInt ≤ 5) ∨ (9 ≤ a0.toInt ∧ a0.toInt ≤ 13)) → K (some (vI 0)) X) : w_X3_has tb0 [vR (some d), vI a0] X K KX := by
  repeat' (first
    | with_reducible refine i_X3_has ?_
    | with_reducible refine e_X3_has_19 ?_
    | with_reducible refine e_X3_has_23 ?_
    | with_reducible refine e_X3_has_24 ?_
    | (with_reducible refine s_h1 ?_ ?_)
    | with_reducible refine gd_in hd ?_
    | (with_reducible refine s_h2 hd ?_ ?_)
    | exact h1 (by omega)
    | exact h0 (by omega)
    | with_reducible refine s_isFrom ?_ ?_
    | with_reducible refine s_demand1 ?_
    | with_reducible refine s_demand0 ?_
    | with_reducible refine s_demandSuch1 ?_
    | with_reducible refine s_demandSuch0 ?_
    | with_reducible refine s_demandState1 ?_
    | with_reducible refine s_demandState0 ?_
    | with_reducible refine s_demandPlace ?_ ?_
    | with_reducible refine s_refuse ?_ ?_
    | (with_reducible refine s_hired ?hb ?_ ?_; case hb => assumption)
    | with_reducible refine s_right1 ?_
    | with_reducible refine s_right0 (by decide) ?_
    | with_reducible refine s_thrown ?_
    | with_reducible refine rI_in ?_
    | with_reducible refine rV_in ?_
    | with_reducible refine rL_in ?_
    | with_reducible refine rR_in ?_
    | with_reducible refine ite_t rfl ?_
    | with_reducible refine ite_f (by decide) ?_
    | with_reducible refine gd_in (by decide) ?_
    | with_reducible refine or0_and ?_
    | with_reducible refine or1_and ?_
    | with_reducible refine br_t (by decide) ?_
    | with_reducible refine br_f (by decide) ?_
    | with_reducible refine br_t2 (by decide) ?_
    | with_reducible refine br_f2 (by decide) ?_
    | (with_reducible refine vin_and ?hv ?_; case hv => first | omega | (simp only [Int32.lt_iff_toInt_lt, Int32.le_iff_toInt_le, ← Int32.toInt_inj, u2_ap, reduceIte, Nat.reduceEqDiff, xI, xJ, xR, xS, xN, li_0, li_1, li_2, li_3, li_4, li_5, li_6, li_7, li_8, li_9, li_10, li_11, li_12, li_13, li_14, li_15, li_16, li_20, li_34, li_40, li_50, li_59, li_60, li_64, li_99, li_100, li_200, li_500, li_1439, li_1440, li_3840, li_4000, li_10000, li_60000, li_1000000, li_m1, li_min, ck_0, ck_1, ck_2, ck_3, ck_4] at * <;> omega))
    | (with_reducible refine ne_and ?hv ?_; case hv => decide)
    | ((with_reducible refine br_s (fun c => ?_) (fun c => ?_)) <;> (try simp only [Int32.lt_iff_toInt_lt, Int32.le_iff_toInt_le, ← Int32.toInt_inj, u2_ap, reduceIte, Nat.reduceEqDiff, xI, xJ, xR, xS, xN, li_0, li_1, li_2, li_3, li_4, li_5, li_6, li_7, li_8, li_9, li_10, li_11, li_12, li_13, li_14, li_15, li_16, li_20, li_34, li_40, li_50, li_59, li_60, li_64, li_99, li_100, li_200, li_500, li_1439, li_1440, li_3840, li_4000, li_10000, li_60000, li_1000000, li_m1, li_min, ck_0, ck_1, ck_2, ck_3, ck_4] at c) <;> (try (exfalso; omega)))
    | ((with_reducible refine br_s2 (fun c => ?_) (fun c => ?_)) <;> (try simp only [Int32.lt_iff_toInt_lt, Int32.le_iff_toInt_le, ← Int32.toInt_inj, u2_ap, reduceIte, Nat.reduceEqDiff, xI, xJ, xR, xS, xN, li_0, li_1, li_2, li_3, li_4, li_5, li_6, li_7, li_8, li_9, li_10, li_11, li_12, li_13, li_14, li_15, li_16, li_20, li_34, li_40, li_50, li_59, li_60, li_64, li_99, li_100, li_200, li_500, li_1439, li_1440, li_3840, li_4000, li_10000, li_60000, li_1000000, li_m1, li_min, ck_0, ck_1, ck_2, ck_3, ck_4] at c) <;> (try (exfalso; omega)))
    | ((with_reducible intro c); (try simp only [Int32.lt_iff_toInt_lt, Int32.le_iff_toInt_le, ← Int32.toInt_inj, u2_ap, reduceIte, Nat.reduceEqDiff, xI, xJ, xR, xS, xN, li_0, li_1, li_2, li_3, li_4, li_5, li_6, li_7, li_8, li_9, li_10, li_11, li_12, li_13, li_14, li_15, li_16, li_20, li_34, li_40, li_50, li_59, li_60, li_64, li_99, li_100, li_200, li_500, li_1439, li_1440, li_3840, li_4000, li_10000, li_60000, li_1000000, li_m1, li_min, ck_0, ck_1, ck_2, ck_3, ck_4] at c) <;> (try (exfalso; omega))))
theorem s_dhas (hs : (shp tb0 X d).1 = kcl q) (hq : q < 5) (h1 : (0 ≤ a0.toInt ∧ (a0.toInt < 6 ∨ (q = 1 ∧ 6 ≤ a0.toInt ∧ a0.toInt ≤ 8) ∨ ((q = 2 ∨ q = 3) ∧ 9 ≤ a0.toInt ∧ a0.toInt ≤ 10) ∨ (q = 3 ∧ 11 ≤ a0.toInt ∧ a0.toInt ≤ 13) ∨ (q = 4 ∧ a0.toInt = 14))) → K (some (vI 1)) X) (h0 : ¬ (0 ≤ a0.toInt ∧ (a0.toInt < 6 ∨ (q = 1 ∧ 6 ≤ a0.toInt ∧ a0.toInt ≤ 8) ∨ ((q = 2 ∨ q = 3) ∧ 9 ≤ a0.toInt ∧ a0.toInt ≤ 10) ∨ (q = 3 ∧ 11 ≤ a0.toInt ∧ a0.toInt ≤ 13) ∨ (q = 4 ∧ a0.toInt = 14))) → K (some (vI 0)) X) : dsp (shp tb0 X d).1 (fun w => w [vR (some d), vI a0] X K (fun _ _ => False)) [(0, w_X0_has tb0), (1, w_X1_has tb0), (2, w_X2_has tb0), (3, w_X3_has tb0), (6, w_X6_has tb0)] := by
  have h10 : 10 ≤ (shp tb0 X d).1 := by
    rw [hs]
    have : ∀ q, q < 5 → 10 ≤ kcl q := by decide
    exact this q hq
  generalize hc : (shp tb0 X d).1 = c at *
  subst hs
  have hq5 : q = 0 ∨ q = 1 ∨ q = 2 ∨ q = 3 ∨ q = 4 := by omega
  have hd : 10 ≤ (shp tb0 X d).1 := by rw [hc]; exact h10
  rcases hq5 with rfl | rfl | rfl | rfl | rfl
  · exact ⟨fun z => absurd z (by decide), fun _ => ⟨fun _ => s_h1 (fun u v => h1 (by omega)) (fun u => h0 (by omega)), fun z => absurd rfl z⟩⟩
  · exact ⟨fun z => absurd z (by decide), fun _ => ⟨fun z => absurd z (by decide), fun _ => ⟨fun z => absurd z (by decide), fun _ => ⟨fun z => absurd z (by decide), fun _ => ⟨fun _ => s_h6 hd (fun u => h1 (by omega)) (fun u => h0 (by omega)), fun z => absurd rfl z⟩⟩⟩⟩⟩
  · exact ⟨fun z => absurd z (by decide), fun _ => ⟨fun z => absurd z (by decide), fun _ => ⟨fun _ => s_h2 hd (fun u => h1 (by omega)) (fun u => h0 (by omega)), fun z => absurd rfl z⟩⟩⟩
  · exact ⟨fun z => absurd z (by decide), fun _ => ⟨fun z => absurd z (by decide), fun _ => ⟨fun z => absurd z (by decide), fun _ => ⟨fun _ => s_h3 hd (fun u => h1 (by omega)) (fun u => h0 (by omega)), fun z => absurd rfl z⟩⟩⟩⟩
  · exact ⟨fun _ => s_h0 hd (fun u => h1 (by omega)) (fun u => h0 (by omega)), fun z => absurd rfl z⟩
theorem s_dkind (hs : (shp tb0 X d).1 = kcl q) (hq : q < 5) (h : K (some (vI (nI q))) X) : dsp (shp tb0 X d).1 (fun w => w [vR (some d)] X K (fun _ _ => False)) [(0, w_X0_kindNumber tb0), (1, w_X1_kindNumber tb0), (2, w_X2_kindNumber tb0), (3, w_X3_kindNumber tb0), (6, w_X6_kindNumber tb0)] := by
  rw [hs]
  have hq5 : q = 0 ∨ q = 1 ∨ q = 2 ∨ q = 3 ∨ q = 4 := by omega
  rcases hq5 with rfl | rfl | rfl | rfl | rfl
  · exact ⟨fun z => absurd z (by decide), fun _ => ⟨fun _ => i_X1_kindNumber h, fun z => absurd rfl z⟩⟩
  · exact ⟨fun z => absurd z (by decide), fun _ => ⟨fun z => absurd z (by decide), fun _ => ⟨fun z => absurd z (by decide), fun _ => ⟨fun z => absurd z (by decide), fun _ => ⟨fun _ => i_X6_kindNumber h, fun z => absurd rfl z⟩⟩⟩⟩⟩
  · exact ⟨fun z => absurd z (by decide), fun _ => ⟨fun z => absurd z (by decide), fun _ => ⟨fun _ => i_X2_kindNumber h, fun z => absurd rfl z⟩⟩⟩
  · exact ⟨fun z => absurd z (by decide), fun _ => ⟨fun z => absurd z (by decide), fun _ => ⟨fun z => absurd z (by decide), fun _ => ⟨fun _ => i_X3_kindNumber h, fun z => absurd rfl z⟩⟩⟩⟩
  · exact ⟨fun _ => i_X0_kindNumber h, fun z => absurd rfl z⟩
end Kinds
