/-! what is told of a hire -/
theorem tb0_hi {i : Nat} (h : 92 ≤ i) : tb0 i = none := by
  unfold tb0
  rw [if_neg (by omega), List.getElem?_eq_none]
  have : shL.length = 88 := by decide
  omega
theorem shp_hi {X : AX} {i : Nat} (h : 92 ≤ i) : shp tb0 X i = xS X i := by unfold shp; rw [tb0_hi h]
theorem isC_k : ∀ q, q < 5 → isC 1 (kcl q) = true := by decide
/-- the object of a tariff -/
theorem rlT_get {n : Nat} {X : AX} (hT : rlT n X) {x : Int32} (hx : bnd x 0 ((n : Int) - 1)) : ∃ d, rlT1 X x.toNatClampNeg d ∧ (x.toNatClampNeg < n) ∧ nI x.toNatClampNeg = x ∧ isC 1 (shp tb0 X d).1 = true ∧ (shp tb0 X d).2 = 1 ∧ shp tb0 X (d + 1) = (1, 15) := by
  have h1 := clp hx.1
  have hl : x.toNatClampNeg < n := by have := hx.2; omega
  obtain ⟨d, hd⟩ := hT.2.2.2 _ hl
  obtain ⟨e1, e2, e3, ⟨q, hq, e4, e5⟩, e6, e7, e8⟩ := id hd
  refine ⟨d, hd, hl, (nI_ofI hx.1).symm, ?_, ?_, ?_⟩
  · rw [shp_hi e2, e5]; exact isC_k q hq
  · rw [shp_hi e2, e5]
  · rw [shp_hi (by omega), e6]
section Ops
variable {L : Nat} {xs : Nat → Int32} {t n s h l : Nat} {X : AX} {K : Option AV → AX → Prop} {KX : String → AX → Prop}
theorem min_cm (M q : Int64) : (if M < q then M else q) = (if q < M then q else M) := by
  by_cases h1 : M < q
  · rw [if_pos h1]
    by_cases h2 : q < M
    · rw [Int64.lt_iff_toInt_lt] at h1 h2; omega
    · rw [if_neg h2]
  · rw [if_neg h1]
    by_cases h2 : q < M
    · rw [if_pos h2]
    · rw [if_neg h2]
      rw [Int64.lt_iff_toInt_lt] at h1 h2
      exact Int64.toInt_inj.mp (by omega)
set_option maxRecDepth 20000 in
set_option maxHeartbeats 4000000 in
theorem op_about {a0 : Int32} (ht : t < 600) (H : Rel L xs t n s h l X) (hK : ∀ c X1, SamS X X1 → (∀ K2 KX2, (∀ b X4, FinI L xs t c b X4 → K2 (some (vI b)) X4) → w_X12_about tb0 [vR (some 42), vI a0] X1 K2 KX2) → K (some (vI c)) X1) : w_L_about tb0 [vR (some 4), vI a0, vR (some 91)] X K KX := by
  obtain ⟨hS, hW, hR, hT, hL, hE, hKk, hH, hC, hG⟩ := id H
  have hr := congrArg Int32.toInt hH.2.2.2.1
  have hb := b_toInt hH.2.2.2.2.1
  simp only [Int32.lt_iff_toInt_lt, Int32.le_iff_toInt_le, ← Int32.toInt_inj, u2_ap, reduceIte, Nat.reduceEqDiff, xI, xJ, xR, xS, xN, li_0, li_1, li_2, li_3, li_4, li_5, li_6, li_7, li_8, li_9, li_10, li_11, li_12, li_13, li_14, li_15, li_16, li_20, li_34, li_40, li_50, li_59, li_60, li_64, li_99, li_100, li_200, li_500, li_1439, li_1440, li_3840, li_4000, li_10000, li_60000, li_1000000, li_m1, li_min] at hr hb
  have hh1 : (xI X 4 9).toInt = h := by rw [hH.1, nI_toInt (by have := hH.2.2.1; omega)]
  have hh2 : (xI X 42 7).toInt = h := by rw [hH.2.1, nI_toInt (by have := hH.2.2.1; omega)]
  simp only [Int32.lt_iff_toInt_lt, Int32.le_iff_toInt_le, ← Int32.toInt_inj, u2_ap, reduceIte, Nat.reduceEqDiff, xI, xJ, xR, xS, xN, li_0, li_1, li_2, li_3, li_4, li_5, li_6, li_7, li_8, li_9, li_10, li_11, li_12, li_13, li_14, li_15, li_16, li_20, li_34, li_40, li_50, li_59, li_60, li_64, li_99, li_100, li_200, li_500, li_1439, li_1440, li_3840, li_4000, li_10000, li_60000, li_1000000, li_m1, li_min, ck_0, ck_1, ck_2, ck_3, ck_4] at hh1 hh2
  rcases Nat.eq_zero_or_pos h with q | q
  · skip
    repeat' (first
      | with_reducible refine i_L_about ?_
      | with_reducible refine e_L_about_15 ?_
      | with_reducible refine e_L_about_13 ?_
      | with_reducible refine i_X11_about ?_
      | with_reducible refine e_X11_about_21 ?_
      | with_reducible refine e_X11_about_22 ?_
      | with_reducible refine i_X4_tell ?_
      | with_reducible refine e_X4_tell_236 ?_
      | with_reducible refine e_X4_tell_223 ?_
      | with_reducible refine e_X4_tell_218 ?_
      | with_reducible refine e_X4_tell_213 ?_
      | with_reducible refine e_X4_tell_200 ?_
      | with_reducible refine e_X4_tell_192 ?_
      | with_reducible refine e_X4_tell_184 ?_
      | with_reducible refine e_X4_tell_173 ?_
      | with_reducible refine e_X4_tell_150 ?_
      | with_reducible refine e_X4_tell_142 ?_
      | with_reducible refine e_X4_tell_134 ?_
      | with_reducible refine e_X4_tell_126 ?_
      | with_reducible refine e_X4_tell_118 ?_
      | with_reducible refine e_X4_tell_110 ?_
      | with_reducible refine e_X4_tell_102 ?_
      | with_reducible refine e_X4_tell_89 ?_
      | with_reducible refine e_X4_tell_84 ?_
      | with_reducible refine e_X4_tell_249 ?_
      | with_reducible refine e_X4_tell_247 ?_
      | with_reducible refine e_X4_tell_248 ?_
      | with_reducible refine e_X4_tell_234 ?_
      | with_reducible refine e_X4_tell_235 ?_
      | with_reducible refine e_X4_tell_211 ?_
      | with_reducible refine e_X4_tell_212 ?_
      | with_reducible refine e_X4_tell_171 ?_
      | with_reducible refine e_X4_tell_172 ?_
      | with_reducible refine e_X4_tell_100 ?_
      | with_reducible refine e_X4_tell_101 ?_
      | with_reducible refine i_X5_minuteOfDay_m15 ?_
      | with_reducible refine i_X5_wholeMillimetres_m15 ?_
      | with_reducible refine e_X5_wholeMillimetres_10_m15 ?_
      | with_reducible refine i_X12_about ?_
      | with_reducible refine e_X12_about_35 ?_
      | with_reducible refine e_X12_about_27 ?_
      | with_reducible refine e_X12_about_28 ?_
      | with_reducible refine e_X12_about_37 ?_
      | with_reducible refine e_X12_about_271 ?_
      | with_reducible refine e_X12_about_264 ?_
      | with_reducible refine e_X12_about_257 ?_
      | with_reducible refine e_X12_about_244 ?_
      | with_reducible refine e_X12_about_238 ?_
      | with_reducible refine e_X12_about_231 ?_
      | with_reducible refine e_X12_about_224 ?_
      | with_reducible refine e_X12_about_202 ?_
      | with_reducible refine e_X12_about_195 ?_
      | with_reducible refine e_X12_about_165 ?_
      | with_reducible refine e_X12_about_157 ?_
      | with_reducible refine e_X12_about_150 ?_
      | with_reducible refine e_X12_about_143 ?_
      | with_reducible refine e_X12_about_136 ?_
      | with_reducible refine e_X12_about_123 ?_
      | with_reducible refine e_X12_about_116 ?_
      | with_reducible refine e_X12_about_286 ?_
      | with_reducible refine e_X12_about_284 ?_
      | with_reducible refine e_X12_about_285 ?_
      | with_reducible refine e_X12_about_255 ?_
      | with_reducible refine e_X12_about_256 ?_
      | with_reducible refine e_X12_about_222 ?_
      | with_reducible refine e_X12_about_223 ?_
      | with_reducible refine e_X12_about_134 ?_
      | with_reducible refine e_X12_about_135 ?_
      | with_reducible refine e_X12_about_299 ?_
      | with_reducible refine e_X12_about_300 ?_
      | with_reducible refine i_X12_was ?_
      | with_reducible refine e_X12_was_12 ?_
      | with_reducible refine e_X12_was_13 ?_
      | with_reducible refine i_X12_minuteOf ?_
      | with_reducible refine s_right1 ?_
      | with_reducible refine s_right0 (by decide) ?_
      | (with_reducible refine s_rightb (by decide) ?_ ?_ ?_)
      | (show Int32.toInt _ = 0 ∨ Int32.toInt _ = 1; simp only [Int32.lt_iff_toInt_lt, Int32.le_iff_toInt_le, ← Int32.toInt_inj, u2_ap, reduceIte, Nat.reduceEqDiff, xI, xJ, xR, xS, xN, li_0, li_1, li_2, li_3, li_4, li_5, li_6, li_7, li_8, li_9, li_10, li_11, li_12, li_13, li_14, li_15, li_16, li_20, li_34, li_40, li_50, li_59, li_60, li_64, li_99, li_100, li_200, li_500, li_1439, li_1440, li_3840, li_4000, li_10000, li_60000, li_1000000, li_m1, li_min, ck_0, ck_1, ck_2, ck_3, ck_4] <;> omega)
      | with_reducible refine s_isFrom ?_ ?_
      | with_reducible refine s_demand1 ?_
      | with_reducible refine s_demand0 ?_
      | with_reducible refine s_demandSuch1 ?_
      | with_reducible refine s_demandSuch0 ?_
      | with_reducible refine s_demandState1 ?_
      | with_reducible refine s_demandState0 ?_
      | with_reducible refine s_demandPlace ?_ ?_
      | with_reducible refine s_refuse ?_ ?_
      | (with_reducible refine s_hired ?hb ?_ ?_; case hb => assumption)
      | with_reducible refine s_right1 ?_
      | with_reducible refine s_right0 (by decide) ?_
      | with_reducible refine s_thrown ?_
      | with_reducible refine rI_in ?_
      | with_reducible refine rV_in ?_
      | with_reducible refine rL_in ?_
      | with_reducible refine rR_in ?_
      | with_reducible refine ite_t rfl ?_
      | with_reducible refine ite_f (by decide) ?_
      | with_reducible refine gd_in (by decide) ?_
      | with_reducible refine or0_and ?_
      | with_reducible refine or1_and ?_
      | with_reducible refine br_t (by decide) ?_
      | with_reducible refine br_f (by decide) ?_
      | with_reducible refine br_t2 (by decide) ?_
      | with_reducible refine br_f2 (by decide) ?_
      | (with_reducible refine vin_and ?hv ?_; case hv => first | omega | (simp only [Int32.lt_iff_toInt_lt, Int32.le_iff_toInt_le, ← Int32.toInt_inj, u2_ap, reduceIte, Nat.reduceEqDiff, xI, xJ, xR, xS, xN, li_0, li_1, li_2, li_3, li_4, li_5, li_6, li_7, li_8, li_9, li_10, li_11, li_12, li_13, li_14, li_15, li_16, li_20, li_34, li_40, li_50, li_59, li_60, li_64, li_99, li_100, li_200, li_500, li_1439, li_1440, li_3840, li_4000, li_10000, li_60000, li_1000000, li_m1, li_min, ck_0, ck_1, ck_2, ck_3, ck_4] at * <;> omega))
      | (with_reducible refine ne_and ?hv ?_; case hv => decide)
      | (refine hK _ _ (SamS.mk rfl rfl) (fun K2 KX2 hK2 => ?_); try dsimp only [xI, xJ, xR, xS, xN])
      | (with_reducible refine hK2 _ _ ?_; try dsimp only [xI, xJ, xR, xS, xN])
      | exact fin_thr H (by assumption) _ (by decide)
      | exact finL_thr H (by assumption) _ (by decide)
      | exact finB_thr H (by assumption) (by decide)
      | ((with_reducible refine br_s (fun c => ?_) (fun c => ?_)) <;> (try simp only [Int32.lt_iff_toInt_lt, Int32.le_iff_toInt_le, ← Int32.toInt_inj, u2_ap, reduceIte, Nat.reduceEqDiff, xI, xJ, xR, xS, xN, li_0, li_1, li_2, li_3, li_4, li_5, li_6, li_7, li_8, li_9, li_10, li_11, li_12, li_13, li_14, li_15, li_16, li_20, li_34, li_40, li_50, li_59, li_60, li_64, li_99, li_100, li_200, li_500, li_1439, li_1440, li_3840, li_4000, li_10000, li_60000, li_1000000, li_m1, li_min, ck_0, ck_1, ck_2, ck_3, ck_4] at c) <;> (try (exfalso; omega)))
      | ((with_reducible refine br_s2 (fun c => ?_) (fun c => ?_)) <;> (try simp only [Int32.lt_iff_toInt_lt, Int32.le_iff_toInt_le, ← Int32.toInt_inj, u2_ap, reduceIte, Nat.reduceEqDiff, xI, xJ, xR, xS, xN, li_0, li_1, li_2, li_3, li_4, li_5, li_6, li_7, li_8, li_9, li_10, li_11, li_12, li_13, li_14, li_15, li_16, li_20, li_34, li_40, li_50, li_59, li_60, li_64, li_99, li_100, li_200, li_500, li_1439, li_1440, li_3840, li_4000, li_10000, li_60000, li_1000000, li_m1, li_min, ck_0, ck_1, ck_2, ck_3, ck_4] at c) <;> (try (exfalso; omega)))
      | (intro c; (try simp only [Int32.lt_iff_toInt_lt, Int32.le_iff_toInt_le, ← Int32.toInt_inj, u2_ap, reduceIte, Nat.reduceEqDiff, xI, xJ, xR, xS, xN, li_0, li_1, li_2, li_3, li_4, li_5, li_6, li_7, li_8, li_9, li_10, li_11, li_12, li_13, li_14, li_15, li_16, li_20, li_34, li_40, li_50, li_59, li_60, li_64, li_99, li_100, li_200, li_500, li_1439, li_1440, li_3840, li_4000, li_10000, li_60000, li_1000000, li_m1, li_min, ck_0, ck_1, ck_2, ck_3, ck_4] at c) <;> (try (exfalso; omega)))
      | exact True.intro
      | with_reducible refine And.intro ?_ ?_)
  · obtain ⟨⟨a1, a2, a3, a4, a5, a6, a7, a8, a9, a10, a11, a12, a13, a14, a15, a16, a17, a18, a19, a20, a21⟩, ⟨m1, m2, m3⟩, -, -, -, -⟩ := rlG_h hH hG q
    obtain ⟨d1, d2, d3, d4, d5, d6, d7, d8⟩ := hH.2.2.2.2.2.2.2.2.2.2 q
    obtain ⟨d, ⟨t1, t2, t3, t4, t5, t6, t7⟩, u2', u3, u4, u5, u6⟩ := rlT_get hT m1
    have hx1 : xR X 15 1 = some d := m2.trans t1
    have f1 := congrArg Int32.toInt d5
    have f2 := congrArg Int32.toInt d7
    have f3 := congrArg Int32.toInt hH.2.2.2.2.2.2.2.1
    have f4 : (xI X 14 6).toInt = 1 → (xI X 78 0).toInt = (xI X 15 14).toInt := fun z => congrArg Int32.toInt (hG.1 z).2.2.2.1
    have f5 := a4.1
    have hx3 : ¬ (xI X 15 3).toInt64 = 0 := fun z => by
      have := congrArg Int64.toInt z
      rw [n_i2l] at this
      have e : (0 : Int64).toInt = 0 := rfl
      omega
    have hx6 : ¬ (xI X 66 0).toInt64 = 0 := by rw [a3]; exact hx3
    simp only [Int32.lt_iff_toInt_lt, Int32.le_iff_toInt_le, ← Int32.toInt_inj, u2_ap, reduceIte, Nat.reduceEqDiff, xI, xJ, xR, xS, xN, li_0, li_1, li_2, li_3, li_4, li_5, li_6, li_7, li_8, li_9, li_10, li_11, li_12, li_13, li_14, li_15, li_16, li_20, li_34, li_40, li_50, li_59, li_60, li_64, li_99, li_100, li_200, li_500, li_1439, li_1440, li_3840, li_4000, li_10000, li_60000, li_1000000, li_m1, li_min, ck_0, ck_1, ck_2, ck_3, ck_4] at f1 f2 f3 f4 f5
    repeat' (first
      | with_reducible refine i_L_about ?_
      | with_reducible refine e_L_about_15 ?_
      | with_reducible refine e_L_about_13 ?_
      | with_reducible refine i_X11_about ?_
      | with_reducible refine e_X11_about_21 ?_
      | with_reducible refine e_X11_about_22 ?_
      | with_reducible refine i_X4_tell ?_
      | with_reducible refine e_X4_tell_236 ?_
      | with_reducible refine e_X4_tell_223 ?_
      | with_reducible refine e_X4_tell_218 ?_
      | with_reducible refine e_X4_tell_213 ?_
      | with_reducible refine e_X4_tell_200 ?_
      | with_reducible refine e_X4_tell_192 ?_
      | with_reducible refine e_X4_tell_184 ?_
      | with_reducible refine e_X4_tell_173 ?_
      | with_reducible refine e_X4_tell_150 ?_
      | with_reducible refine e_X4_tell_142 ?_
      | with_reducible refine e_X4_tell_134 ?_
      | with_reducible refine e_X4_tell_126 ?_
      | with_reducible refine e_X4_tell_118 ?_
      | with_reducible refine e_X4_tell_110 ?_
      | with_reducible refine e_X4_tell_102 ?_
      | with_reducible refine e_X4_tell_89 ?_
      | with_reducible refine e_X4_tell_84 ?_
      | with_reducible refine e_X4_tell_249 ?_
      | with_reducible refine e_X4_tell_247 ?_
      | with_reducible refine e_X4_tell_248 ?_
      | with_reducible refine e_X4_tell_234 ?_
      | with_reducible refine e_X4_tell_235 ?_
      | with_reducible refine e_X4_tell_211 ?_
      | with_reducible refine e_X4_tell_212 ?_
      | with_reducible refine e_X4_tell_171 ?_
      | with_reducible refine e_X4_tell_172 ?_
      | with_reducible refine e_X4_tell_100 ?_
      | with_reducible refine e_X4_tell_101 ?_
      | with_reducible refine i_X5_minuteOfDay_m15 ?_
      | with_reducible refine i_X5_wholeMillimetres_m15 ?_
      | with_reducible refine e_X5_wholeMillimetres_10_m15 ?_
      | with_reducible refine i_X12_about ?_
      | with_reducible refine e_X12_about_35 ?_
      | with_reducible refine e_X12_about_27 ?_
      | with_reducible refine e_X12_about_28 ?_
      | with_reducible refine e_X12_about_37 ?_
      | with_reducible refine e_X12_about_271 ?_
      | with_reducible refine e_X12_about_264 ?_
      | with_reducible refine e_X12_about_257 ?_
      | with_reducible refine e_X12_about_244 ?_
      | with_reducible refine e_X12_about_238 ?_
      | with_reducible refine e_X12_about_231 ?_
      | with_reducible refine e_X12_about_224 ?_
      | with_reducible refine e_X12_about_202 ?_
      | with_reducible refine e_X12_about_195 ?_
      | with_reducible refine e_X12_about_165 ?_
      | with_reducible refine e_X12_about_157 ?_
      | with_reducible refine e_X12_about_150 ?_
      | with_reducible refine e_X12_about_143 ?_
      | with_reducible refine e_X12_about_136 ?_
      | with_reducible refine e_X12_about_123 ?_
      | with_reducible refine e_X12_about_116 ?_
      | with_reducible refine e_X12_about_286 ?_
      | with_reducible refine e_X12_about_284 ?_
      | with_reducible refine e_X12_about_285 ?_
      | with_reducible refine e_X12_about_255 ?_
      | with_reducible refine e_X12_about_256 ?_
      | with_reducible refine e_X12_about_222 ?_
      | with_reducible refine e_X12_about_223 ?_
      | with_reducible refine e_X12_about_134 ?_
      | with_reducible refine e_X12_about_135 ?_
      | with_reducible refine e_X12_about_299 ?_
      | with_reducible refine e_X12_about_300 ?_
      | with_reducible refine i_X12_was ?_
      | with_reducible refine e_X12_was_12 ?_
      | with_reducible refine e_X12_was_13 ?_
      | with_reducible refine i_X12_minuteOf ?_
      | with_reducible refine s_right1 ?_
      | with_reducible refine s_right0 (by decide) ?_
      | (with_reducible refine s_rightb (by decide) ?_ ?_ ?_)
      | (show Int32.toInt _ = 0 ∨ Int32.toInt _ = 1; simp only [Int32.lt_iff_toInt_lt, Int32.le_iff_toInt_le, ← Int32.toInt_inj, u2_ap, reduceIte, Nat.reduceEqDiff, xI, xJ, xR, xS, xN, li_0, li_1, li_2, li_3, li_4, li_5, li_6, li_7, li_8, li_9, li_10, li_11, li_12, li_13, li_14, li_15, li_16, li_20, li_34, li_40, li_50, li_59, li_60, li_64, li_99, li_100, li_200, li_500, li_1439, li_1440, li_3840, li_4000, li_10000, li_60000, li_1000000, li_m1, li_min, ck_0, ck_1, ck_2, ck_3, ck_4] <;> omega)
      | (rw [hx1]; refine onS_in ?_; refine gd_in u4 ?_)
      | (refine And.intro hx3 ?_)
      | (refine And.intro hx6 ?_)
      | with_reducible refine s_isFrom ?_ ?_
      | with_reducible refine s_demand1 ?_
      | with_reducible refine s_demand0 ?_
      | with_reducible refine s_demandSuch1 ?_
      | with_reducible refine s_demandSuch0 ?_
      | with_reducible refine s_demandState1 ?_
      | with_reducible refine s_demandState0 ?_
      | with_reducible refine s_demandPlace ?_ ?_
      | with_reducible refine s_refuse ?_ ?_
      | (with_reducible refine s_hired ?hb ?_ ?_; case hb => assumption)
      | with_reducible refine s_right1 ?_
      | with_reducible refine s_right0 (by decide) ?_
      | with_reducible refine s_thrown ?_
      | with_reducible refine rI_in ?_
      | with_reducible refine rV_in ?_
      | with_reducible refine rL_in ?_
      | with_reducible refine rR_in ?_
      | with_reducible refine ite_t rfl ?_
      | with_reducible refine ite_f (by decide) ?_
      | with_reducible refine gd_in (by decide) ?_
      | with_reducible refine or0_and ?_
      | with_reducible refine or1_and ?_
      | with_reducible refine br_t (by decide) ?_
      | with_reducible refine br_f (by decide) ?_
      | with_reducible refine br_t2 (by decide) ?_
      | with_reducible refine br_f2 (by decide) ?_
      | (with_reducible refine vin_and ?hv ?_; case hv => first | omega | (simp only [Int32.lt_iff_toInt_lt, Int32.le_iff_toInt_le, ← Int32.toInt_inj, u2_ap, reduceIte, Nat.reduceEqDiff, xI, xJ, xR, xS, xN, li_0, li_1, li_2, li_3, li_4, li_5, li_6, li_7, li_8, li_9, li_10, li_11, li_12, li_13, li_14, li_15, li_16, li_20, li_34, li_40, li_50, li_59, li_60, li_64, li_99, li_100, li_200, li_500, li_1439, li_1440, li_3840, li_4000, li_10000, li_60000, li_1000000, li_m1, li_min, ck_0, ck_1, ck_2, ck_3, ck_4] at * <;> omega))
      | (with_reducible refine ne_and ?hv ?_; case hv => decide)
      | (refine hK _ _ (SamS.mk rfl rfl) (fun K2 KX2 hK2 => ?_); try dsimp only [xI, xJ, xR, xS, xN])
      | (with_reducible refine hK2 _ _ ?_; try dsimp only [xI, xJ, xR, xS, xN])
      | exact fin_thr H (by assumption) _ (by decide)
      | exact finL_thr H (by assumption) _ (by decide)
      | exact finB_thr H (by assumption) (by decide)
      | ((with_reducible refine br_s (fun c => ?_) (fun c => ?_)) <;> (try simp only [Int32.lt_iff_toInt_lt, Int32.le_iff_toInt_le, ← Int32.toInt_inj, u2_ap, reduceIte, Nat.reduceEqDiff, xI, xJ, xR, xS, xN, li_0, li_1, li_2, li_3, li_4, li_5, li_6, li_7, li_8, li_9, li_10, li_11, li_12, li_13, li_14, li_15, li_16, li_20, li_34, li_40, li_50, li_59, li_60, li_64, li_99, li_100, li_200, li_500, li_1439, li_1440, li_3840, li_4000, li_10000, li_60000, li_1000000, li_m1, li_min, ck_0, ck_1, ck_2, ck_3, ck_4] at c) <;> (try (exfalso; omega)))
      | ((with_reducible refine br_s2 (fun c => ?_) (fun c => ?_)) <;> (try simp only [Int32.lt_iff_toInt_lt, Int32.le_iff_toInt_le, ← Int32.toInt_inj, u2_ap, reduceIte, Nat.reduceEqDiff, xI, xJ, xR, xS, xN, li_0, li_1, li_2, li_3, li_4, li_5, li_6, li_7, li_8, li_9, li_10, li_11, li_12, li_13, li_14, li_15, li_16, li_20, li_34, li_40, li_50, li_59, li_60, li_64, li_99, li_100, li_200, li_500, li_1439, li_1440, li_3840, li_4000, li_10000, li_60000, li_1000000, li_m1, li_min, ck_0, ck_1, ck_2, ck_3, ck_4] at c) <;> (try (exfalso; omega)))
      | (intro c; (try simp only [Int32.lt_iff_toInt_lt, Int32.le_iff_toInt_le, ← Int32.toInt_inj, u2_ap, reduceIte, Nat.reduceEqDiff, xI, xJ, xR, xS, xN, li_0, li_1, li_2, li_3, li_4, li_5, li_6, li_7, li_8, li_9, li_10, li_11, li_12, li_13, li_14, li_15, li_16, li_20, li_34, li_40, li_50, li_59, li_60, li_64, li_99, li_100, li_200, li_500, li_1439, li_1440, li_3840, li_4000, li_10000, li_60000, li_1000000, li_m1, li_min, ck_0, ck_1, ck_2, ck_3, ck_4] at c) <;> (try (exfalso; omega)))
      | exact True.intro
      | with_reducible refine And.intro ?_ ?_)
    all_goals first
      | exact fin_read H (congrArg Int32.toInt64 (d1.trans d2.symm))
      | exact fin_read H (congrArg Int32.toInt64 a5.symm)
      | exact fin_read H (congrArg Int32.toInt64 a10.symm)
      | exact fin_read H (congrArg Int32.toInt64 a11.symm)
      | exact fin_read H (congrArg Int32.toInt64 a18.symm)
      | exact fin_read H (congrArg Int32.toInt64 a16.symm)
      | exact fin_read H (congrArg Int32.toInt64 d3.symm)
      | exact fin_read H (congrArg Int32.toInt64 d4.symm)
      | exact fin_read H (congrArg Int32.toInt64 (t6.trans u3))
      | exact fin_read H (congrArg Int32.toInt64 (by show xI X 15 9 = Int64.toInt32 (xJ X 76 0); rw [a12, Int32.toInt32_toInt64]))
      | exact fin_read H (congrArg Int32.toInt64 (by
          show (xI X 15 2 + xI X 15 4) / 60 - (xI X 15 2 + xI X 15 4) / 60 / 1440 * 1440 = (xI X 62 0 + xI X 59 0) / 60 - (xI X 62 0 + xI X 59 0) / 60 / 1440 * 1440
          rw [a1, a5]))
      | exact fin_read H (congrArg Int32.toInt64 (by
          show Int64.toInt32 (if 2147483647 < xJ X 15 5 / (xI X 15 3).toInt64 then 2147483647 else xJ X 15 5 / (xI X 15 3).toInt64) = Int64.toInt32 (if xJ X 74 0 * (xI X 65 0).toInt64 / (xI X 66 0).toInt64 < 2147483647 then xJ X 74 0 * (xI X 65 0).toInt64 / (xI X 66 0).toInt64 else 2147483647)
          rw [← a8, a3, min_cm]))
      | exact fin_read H rfl
end Ops
