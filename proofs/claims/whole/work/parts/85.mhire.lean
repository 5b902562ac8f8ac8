/-! hire: the reference's side, where it is right -/
section MHire
variable {S : Nat → Nat × Nat} {F : Nat → Nat → Int32} {J : Nat → Nat → Int64} {R : Nat → Nat → Option Nat} {nn k q sq : Nat} {K : Option AV → AX → Prop} {KX : String → AX → Prop} {a0 zone mi se : Int32}
set_option maxHeartbeats 4000000 in
theorem m_hire (h14 : (F 42 14).toInt = 0) (h0 : 0 ≤ a0.toInt) (h12 : a0.toInt < 12) (hbeg : 0 ≤ zone.toInt ∧ zone.toInt ≤ 99 ∧ 0 ≤ mi.toInt ∧ mi.toInt ≤ 1439 ∧ 0 ≤ se.toInt ∧ se.toInt ≤ 59) (h47 : (F 47 a0.toNatClampNeg).toInt = 1) (h48 : F 48 a0.toNatClampNeg = nI k) (hk : k < 12) (hq : q < 5) (hkd : F 45 k = nI q) (h7 : ¬ (F 42 7).toInt = 4000) (h6 : F 42 6 = nI sq) (h40 : sq ≤ 40)
    (hK : ∀ X' y, Bgn 0 k q zone (60 * mi + se) (S, u2 F 42 0 0, J, R, nn) X' → allW (xI X' 49) sq y → K (some (vI (xI X' 42 7))) (xS X', u2 (u2 (u2 (u2 (u2 (xI X') 58 0 (xI X' 42 7)) 42 7 (xI X' 42 7 + 1)) 42 14 1) 42 18 (xI X' 42 6)) 42 19 y, xJ X', xR X', xN X')) : w_X12_hire tb0 [vR (some 42), vI a0, vI zone, vI mi, vI se] (S, F, J, R, nn) K KX := by
  repeat' (first
    | with_reducible refine i_X12_hire ?_
    | with_reducible refine e_X12_hire_17 ?_
    | with_reducible refine e_X12_hire_18 ?_
    | with_reducible refine e_X12_hire_56 ?_
    | with_reducible refine e_X12_hire_58 ?_
    | with_reducible refine e_X12_hire_70 ?_
    | with_reducible refine e_X12_hire_167 ?_
    | with_reducible refine e_X12_hire_157 ?_
    | with_reducible refine e_X12_hire_158 ?_
    | with_reducible refine i_X12_isSlot ?_
    | with_reducible refine e_X12_isSlot_15 ?_
    | with_reducible refine e_X12_isSlot_16 ?_
    | ((with_reducible refine s_isBeginning ?_ ?_ ?_); (· decide))
    | ((with_reducible refine s_isHeld ?_ ?_ ?_ ?_ ?_ ?_ ?_ ?_); (· omega); (· omega); (· decide); (· decide); (· exact (show 0 ≤ (F 47 a0.toNatClampNeg).toInt ∧ (F 47 a0.toNatClampNeg).toInt ≤ 2 from ⟨by omega, by omega⟩)))
    | with_reducible refine s_isFrom ?_ ?_
    | with_reducible refine s_demand1 ?_
    | with_reducible refine s_demand0 ?_
    | with_reducible refine s_demandSuch1 ?_
    | with_reducible refine s_demandSuch0 ?_
    | with_reducible refine s_demandState1 ?_
    | with_reducible refine s_demandState0 ?_
    | with_reducible refine s_demandPlace ?_ ?_
    | with_reducible refine s_refuse ?_ ?_
    | (with_reducible refine s_hired ?hb ?_ ?_; case hb => assumption)
    | with_reducible refine s_right1 ?_
    | with_reducible refine s_right0 (by decide) ?_
    | with_reducible refine s_thrown ?_
    | with_reducible refine rI_in ?_
    | with_reducible refine rV_in ?_
    | with_reducible refine rL_in ?_
    | with_reducible refine rR_in ?_
    | with_reducible refine ite_t rfl ?_
    | with_reducible refine ite_f (by decide) ?_
    | with_reducible refine gd_in (by decide) ?_
    | with_reducible refine or0_and ?_
    | with_reducible refine or1_and ?_
    | with_reducible refine br_t (by decide) ?_
    | with_reducible refine br_f (by decide) ?_
    | with_reducible refine br_t2 (by decide) ?_
    | with_reducible refine br_f2 (by decide) ?_
    | (with_reducible refine vin_and ?hv ?_; case hv => first | omega | (simp only [Int32.lt_iff_toInt_lt, Int32.le_iff_toInt_le, ← Int32.toInt_inj, u2_ap, reduceIte, Nat.reduceEqDiff, xI, xJ, xR, xS, xN, li_0, li_1, li_2, li_3, li_4, li_5, li_6, li_7, li_8, li_9, li_10, li_11, li_12, li_13, li_14, li_15, li_16, li_20, li_34, li_40, li_50, li_59, li_60, li_64, li_99, li_100, li_200, li_500, li_1439, li_1440, li_3840, li_4000, li_10000, li_60000, li_1000000, li_m1, li_min, ck_0, ck_1, ck_2, ck_3, ck_4] at * <;> omega))
    | (with_reducible refine ne_and ?hv ?_; case hv => decide)
    | ((with_reducible refine br_s (fun c => ?_) (fun c => ?_)) <;> (try simp only [Int32.lt_iff_toInt_lt, Int32.le_iff_toInt_le, ← Int32.toInt_inj, u2_ap, reduceIte, Nat.reduceEqDiff, xI, xJ, xR, xS, xN, li_0, li_1, li_2, li_3, li_4, li_5, li_6, li_7, li_8, li_9, li_10, li_11, li_12, li_13, li_14, li_15, li_16, li_20, li_34, li_40, li_50, li_59, li_60, li_64, li_99, li_100, li_200, li_500, li_1439, li_1440, li_3840, li_4000, li_10000, li_60000, li_1000000, li_m1, li_min, ck_0, ck_1, ck_2, ck_3, ck_4] at c) <;> (try (exfalso; omega)))
    | ((with_reducible refine br_s2 (fun c => ?_) (fun c => ?_)) <;> (try simp only [Int32.lt_iff_toInt_lt, Int32.le_iff_toInt_le, ← Int32.toInt_inj, u2_ap, reduceIte, Nat.reduceEqDiff, xI, xJ, xR, xS, xN, li_0, li_1, li_2, li_3, li_4, li_5, li_6, li_7, li_8, li_9, li_10, li_11, li_12, li_13, li_14, li_15, li_16, li_20, li_34, li_40, li_50, li_59, li_60, li_64, li_99, li_100, li_200, li_500, li_1439, li_1440, li_3840, li_4000, li_10000, li_60000, li_1000000, li_m1, li_min, ck_0, ck_1, ck_2, ck_3, ck_4] at c) <;> (try (exfalso; omega)))
    | ((with_reducible intro c); (try simp only [Int32.lt_iff_toInt_lt, Int32.le_iff_toInt_le, ← Int32.toInt_inj, u2_ap, reduceIte, Nat.reduceEqDiff, xI, xJ, xR, xS, xN, li_0, li_1, li_2, li_3, li_4, li_5, li_6, li_7, li_8, li_9, li_10, li_11, li_12, li_13, li_14, li_15, li_16, li_20, li_34, li_40, li_50, li_59, li_60, li_64, li_99, li_100, li_200, li_500, li_1439, li_1440, li_3840, li_4000, li_10000, li_60000, li_1000000, li_m1, li_min, ck_0, ck_1, ck_2, ck_3, ck_4] at c) <;> (try (exfalso; omega))))
  show w_X12_begins tb0 [vR (some 42), vI (nI 0), vI (F 48 a0.toNatClampNeg), vI zone, vI mi, vI se] (S, u2 F 42 0 0, J, R, nn) _ KX
  rw [h48]
  refine s_begins2 (by decide) hk hq hkd (fun X' hB => rV_in ⟨by unfold vp_in; decide, Or.inr rfl, Or.inr rfl, ?_⟩)
  have e42 : xI X' 42 = u2 F 42 0 0 42 := hB.2.2.2.1 42 (by omega) (by omega)
  have e6 : xI X' 42 6 = nI sq := by rw [e42]; exact h6
  exact x_hire126 (F := u2 (u2 (u2 (u2 (xI X') 58 0 (xI X' 42 7)) 42 7 (xI X' 42 7 + 1)) 42 14 1) 42 18 (xI X' 42 6)) e6 h40 (fun y hy => hK X' y hB hy)
end MHire
