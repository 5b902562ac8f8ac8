/-! more calls -/
section Ops
variable {L : Nat} {xs : Nat → Int32} {t n s h l : Nat} {X : AX} {K : Option AV → AX → Prop} {KX : String → AX → Prop}
theorem s_rightb {a1 v : Int32} {S : Nat → Nat × Nat} {I : Nat → Nat → Int32} {J : Nat → Nat → Int64} {R : Nat → Nat → Option Nat} {nn : Nat} (ha : ¬ a1 = 0) (hb : v.toInt = 0 ∨ v.toInt = 1) (h1 : v.toInt = 1 → K (some (vI 1)) (S, u2 I 42 0 0, J, R, nn)) (h0 : v.toInt = 0 → K (some (vI 0)) (S, u2 (u2 I 42 0 0) 42 0 a1, J, R, nn)) : w_X12_right tb0 [vR (some 42), vI v, vI a1] (S, u2 I 42 0 0, J, R, nn) K KX := by
  rcases hb with e | e
  · have e' : v = 0 := Int32.toInt_inj.mp (e.trans z32.symm)
    subst e'; exact s_right0 ha (h0 e)
  · have e' : v = 1 := Int32.toInt_inj.mp (e.trans li_1.symm)
    subst e'; exact s_right1 (h1 e)
theorem i64_add {x y : Int32} (h1 : -2147483648 ≤ x.toInt + y.toInt) (h2 : x.toInt + y.toInt < 2147483648) : (x + y).toInt64 = x.toInt64 + y.toInt64 := Int64.toInt_inj.mp (by
  have hx := n_rng x
  have hy := n_rng y
  rw [n_i2l, n_add h1 h2, n_addL] <;> rw [n_i2l, n_i2l] <;> omega)
set_option maxHeartbeats 4000000 in
theorem op_extra {a0 : Int32} (ht : t < 600) (H : Rel L xs t n s h l X) (hK : ∀ c X1, SamS X X1 → (∀ K2 KX2, (∀ b X4, FinI L xs t c b X4 → K2 (some (vI b)) X4) → w_X12_extra tb0 [vR (some 42), vI a0] X1 K2 KX2) → K (some (vI c)) X1) : w_L_extra tb0 [vR (some 4), vI a0, vR (some 91)] X K KX := by
  obtain ⟨hS, hW, hR, hT, hL, hE, hKk, hH, hC, hG⟩ := id H
  have hr := congrArg Int32.toInt hH.2.2.2.1
  have hb := b_toInt hH.2.2.2.2.1
  simp only [Int32.lt_iff_toInt_lt, Int32.le_iff_toInt_le, ← Int32.toInt_inj, u2_ap, reduceIte, Nat.reduceEqDiff, xI, xJ, xR, xS, xN, li_0, li_1, li_2, li_3, li_4, li_5, li_6, li_7, li_8, li_9, li_10, li_11, li_12, li_13, li_14, li_15, li_16, li_20, li_34, li_40, li_50, li_59, li_60, li_64, li_99, li_100, li_200, li_500, li_1439, li_1440, li_3840, li_4000, li_10000, li_60000, li_1000000, li_m1, li_min] at hr hb
  have hh1 : (xI X 4 9).toInt = h := by rw [hH.1, nI_toInt (by have := hH.2.2.1; omega)]
  have hh2 : (xI X 42 7).toInt = h := by rw [hH.2.1, nI_toInt (by have := hH.2.2.1; omega)]
  simp only [Int32.lt_iff_toInt_lt, Int32.le_iff_toInt_le, ← Int32.toInt_inj, u2_ap, reduceIte, Nat.reduceEqDiff, xI, xJ, xR, xS, xN, li_0, li_1, li_2, li_3, li_4, li_5, li_6, li_7, li_8, li_9, li_10, li_11, li_12, li_13, li_14, li_15, li_16, li_20, li_34, li_40, li_50, li_59, li_60, li_64, li_99, li_100, li_200, li_500, li_1439, li_1440, li_3840, li_4000, li_10000, li_60000, li_1000000, li_m1, li_min, ck_0, ck_1, ck_2, ck_3, ck_4] at hh1 hh2
  have hbb := hH.2.2.2.2.1
  unfold bl at hbb
  repeat' (first
    | with_reducible refine i_L_extra ?_
    | with_reducible refine e_L_extra_18 ?_
    | with_reducible refine e_L_extra_16 ?_
    | with_reducible refine e_L_extra_13 ?_
    | with_reducible refine i_X11_extra ?_
    | with_reducible refine i_X5_charge_m15 ?_
    | with_reducible refine i_X12_extra ?_
    | with_reducible refine e_X12_extra_41 ?_
    | with_reducible refine e_X12_extra_33 ?_
    | with_reducible refine e_X12_extra_34 ?_
    | with_reducible refine e_X12_extra_43 ?_
    | with_reducible refine s_right1 ?_
    | with_reducible refine s_right0 (by decide) ?_
    | (with_reducible refine s_rightb (by decide) ?_ ?_ ?_)
    | (show Int32.toInt _ = 0 ∨ Int32.toInt _ = 1; simp only [Int32.lt_iff_toInt_lt, Int32.le_iff_toInt_le, ← Int32.toInt_inj, u2_ap, reduceIte, Nat.reduceEqDiff, xI, xJ, xR, xS, xN, li_0, li_1, li_2, li_3, li_4, li_5, li_6, li_7, li_8, li_9, li_10, li_11, li_12, li_13, li_14, li_15, li_16, li_20, li_34, li_40, li_50, li_59, li_60, li_64, li_99, li_100, li_200, li_500, li_1439, li_1440, li_3840, li_4000, li_10000, li_60000, li_1000000, li_m1, li_min, ck_0, ck_1, ck_2, ck_3, ck_4] <;> omega)
    | with_reducible refine s_isFrom ?_ ?_
    | with_reducible refine s_demand1 ?_
    | with_reducible refine s_demand0 ?_
    | with_reducible refine s_demandSuch1 ?_
    | with_reducible refine s_demandSuch0 ?_
    | with_reducible refine s_demandState1 ?_
    | with_reducible refine s_demandState0 ?_
    | with_reducible refine s_demandPlace ?_ ?_
    | with_reducible refine s_refuse ?_ ?_
    | (with_reducible refine s_hired ?hb ?_ ?_; case hb => assumption)
    | with_reducible refine s_right1 ?_
    | with_reducible refine s_right0 (by decide) ?_
    | with_reducible refine s_thrown ?_
    | with_reducible refine rI_in ?_
    | with_reducible refine rV_in ?_
    | with_reducible refine rL_in ?_
    | with_reducible refine rR_in ?_
    | with_reducible refine ite_t rfl ?_
    | with_reducible refine ite_f (by decide) ?_
    | with_reducible refine gd_in (by decide) ?_
    | with_reducible refine or0_and ?_
    | with_reducible refine or1_and ?_
    | with_reducible refine br_t (by decide) ?_
    | with_reducible refine br_f (by decide) ?_
    | with_reducible refine br_t2 (by decide) ?_
    | with_reducible refine br_f2 (by decide) ?_
    | (with_reducible refine vin_and ?hv ?_; case hv => first | omega | (simp only [Int32.lt_iff_toInt_lt, Int32.le_iff_toInt_le, ← Int32.toInt_inj, u2_ap, reduceIte, Nat.reduceEqDiff, xI, xJ, xR, xS, xN, li_0, li_1, li_2, li_3, li_4, li_5, li_6, li_7, li_8, li_9, li_10, li_11, li_12, li_13, li_14, li_15, li_16, li_20, li_34, li_40, li_50, li_59, li_60, li_64, li_99, li_100, li_200, li_500, li_1439, li_1440, li_3840, li_4000, li_10000, li_60000, li_1000000, li_m1, li_min, ck_0, ck_1, ck_2, ck_3, ck_4] at * <;> omega))
    | (with_reducible refine ne_and ?hv ?_; case hv => decide)
    | (refine hK _ _ (SamS.mk rfl rfl) (fun K2 KX2 hK2 => ?_); try dsimp only [xI, xJ, xR, xS, xN])
    | (with_reducible refine hK2 _ _ ?_; try dsimp only [xI, xJ, xR, xS, xN])
    | exact fin_thr H (by assumption) _ (by decide)
    | exact finL_thr H (by assumption) _ (by decide)
    | exact finB_thr H (by assumption) (by decide)
    | ((with_reducible refine br_s (fun c => ?_) (fun c => ?_)) <;> (try simp only [Int32.lt_iff_toInt_lt, Int32.le_iff_toInt_le, ← Int32.toInt_inj, u2_ap, reduceIte, Nat.reduceEqDiff, xI, xJ, xR, xS, xN, li_0, li_1, li_2, li_3, li_4, li_5, li_6, li_7, li_8, li_9, li_10, li_11, li_12, li_13, li_14, li_15, li_16, li_20, li_34, li_40, li_50, li_59, li_60, li_64, li_99, li_100, li_200, li_500, li_1439, li_1440, li_3840, li_4000, li_10000, li_60000, li_1000000, li_m1, li_min, ck_0, ck_1, ck_2, ck_3, ck_4] at c) <;> (try (exfalso; omega)))
    | ((with_reducible refine br_s2 (fun c => ?_) (fun c => ?_)) <;> (try simp only [Int32.lt_iff_toInt_lt, Int32.le_iff_toInt_le, ← Int32.toInt_inj, u2_ap, reduceIte, Nat.reduceEqDiff, xI, xJ, xR, xS, xN, li_0, li_1, li_2, li_3, li_4, li_5, li_6, li_7, li_8, li_9, li_10, li_11, li_12, li_13, li_14, li_15, li_16, li_20, li_34, li_40, li_50, li_59, li_60, li_64, li_99, li_100, li_200, li_500, li_1439, li_1440, li_3840, li_4000, li_10000, li_60000, li_1000000, li_m1, li_min, ck_0, ck_1, ck_2, ck_3, ck_4] at c) <;> (try (exfalso; omega)))
    | (intro c; (try simp only [Int32.lt_iff_toInt_lt, Int32.le_iff_toInt_le, ← Int32.toInt_inj, u2_ap, reduceIte, Nat.reduceEqDiff, xI, xJ, xR, xS, xN, li_0, li_1, li_2, li_3, li_4, li_5, li_6, li_7, li_8, li_9, li_10, li_11, li_12, li_13, li_14, li_15, li_16, li_20, li_34, li_40, li_50, li_59, li_60, li_64, li_99, li_100, li_200, li_500, li_1439, li_1440, li_3840, li_4000, li_10000, li_60000, li_1000000, li_m1, li_min, ck_0, ck_1, ck_2, ck_3, ck_4] at c) <;> (try (exfalso; omega))))
  have e6 : (xI X 14 6).toInt = 1 := by assumption
  obtain ⟨g1, g2, ⟨g3a, g3b, g3c, g3d⟩, g4⟩ := rlG_up hG
  obtain ⟨a1, a2, a3, a4, a5, a6, a7, a8, a9, a10, a11, a12, a13, a14, a15, a16⟩ := (hG.1 e6).1.1
  have a13' := a13
  have a15' := a15
  unfold bnd at a13' a15'
  have s9 : (xI X 15 9 + a0).toInt = (xI X 15 9).toInt + a0.toInt := by rw [n_add] <;> omega
  have s10 : (xI X 15 10 + a0).toInt = (xI X 15 10).toInt + a0.toInt := by rw [n_add] <;> omega
  have l9 : (xI X 15 9 + a0).toInt64 = (xI X 15 9).toInt64 + a0.toInt64 := i64_add (by omega) (by omega)
  have l10 : (xI X 15 10 + a0).toInt64 = (xI X 15 10).toInt64 + a0.toInt64 := i64_add (by omega) (by omega)
  have hG1 : rlG (t + 1) n h (X.fst, u2 (u2 (u2 X.snd.fst 15 10 (X.snd.fst 15 10 + a0)) 15 9 (X.snd.fst 15 9 + a0)) 42 0 0, u2 (u2 (u2 (u2 (u2 X.snd.snd.fst 15 6 (X.snd.snd.fst 15 6 + a0.toInt64)) 91 0 (X.snd.fst 15 9 + a0).toInt64) 76 0 (X.snd.snd.fst 76 0 + a0.toInt64)) 77 0 (X.snd.snd.fst 77 0 + a0.toInt64)) 75 0 (X.snd.snd.fst 75 0 + a0.toInt64), X.snd.snd.snd.fst, X.snd.snd.snd.snd) := by
    refine ⟨fun z => ⟨⟨⟨a1, a2, a3, a4, a5, a6, a7, a8, congrArg (· + a0.toInt64) a9, a10, a11, ?_, ⟨?_, ?_⟩, ?_, ⟨?_, ?_⟩, a16⟩, (g1 z).1.2⟩, (g1 z).2⟩, fun z => absurd (e6.symm.trans z) (by decide), ⟨g3a, g3b, g3c, g3d⟩, g4⟩
    · show xJ X 76 0 + a0.toInt64 = (xI X 15 9 + a0).toInt64
      rw [l9, a12]
    · show 0 ≤ (xI X 15 9 + a0).toInt
      omega
    · show (xI X 15 9 + a0).toInt ≤ 10000 * (((t + 1 : Nat) : Int) + 1)
      omega
    · show xJ X 77 0 + a0.toInt64 = (xI X 15 10 + a0).toInt64
      rw [l10, a14]
    · show 0 ≤ (xI X 15 10 + a0).toInt
      omega
    · show (xI X 15 10 + a0).toInt ≤ 10000 * (((t + 1 : Nat) : Int) + 1)
      omega
  refine ⟨⟨n, s, h, l, ⟨rlS_n (X := X) hS rfl rfl rfl rfl rfl (Nat.le_refl _), hW, hR, rlT_fr (X := X) (by repeat (first | exact fun _ _ => rfl | refine u2_hi (by decide) ?_ | refine u1_hi (by decide) ?_)) rfl rfl rfl rfl (Nat.le_refl _) rfl rfl hT, hL, hE, hKk, rlH_up hH, rlC_fr (X := X) (by repeat (first | exact fun _ _ => rfl | refine u2_hi (by decide) ?_ | refine u1_hi (by decide) ?_)) rfl rfl rfl rfl rfl rfl rfl rfl (Nat.le_refl _) rfl hC, hG1⟩⟩, rfl, fun _ => ?_⟩
  show (xI X 15 9 + a0).toInt64 = (Int64.toInt32 (xJ X 76 0 + a0.toInt64)).toInt64
  rw [a12, ← l9, Int32.toInt32_toInt64]
set_option maxHeartbeats 4000000 in
theorem op_pay {a0 : Int64} (ht : t < 600) (H : Rel L xs t n s h l X) (hK : ∀ c X1, SamS X X1 → (∀ K2 KX2, (∀ b X4, FinL L xs t c b X4 → K2 (some (vL b)) X4) → w_X12_pay tb0 [vR (some 42), vL a0] X1 K2 KX2) → K (some (vI c)) X1) : w_L_pay tb0 [vR (some 4), vL a0, vR (some 91)] X K KX := by
  obtain ⟨hS, hW, hR, hT, hL, hE, hKk, hH, hC, hG⟩ := id H
  have hr := congrArg Int32.toInt hH.2.2.2.1
  have hb := b_toInt hH.2.2.2.2.1
  simp only [Int32.lt_iff_toInt_lt, Int32.le_iff_toInt_le, ← Int32.toInt_inj, u2_ap, reduceIte, Nat.reduceEqDiff, xI, xJ, xR, xS, xN, li_0, li_1, li_2, li_3, li_4, li_5, li_6, li_7, li_8, li_9, li_10, li_11, li_12, li_13, li_14, li_15, li_16, li_20, li_34, li_40, li_50, li_59, li_60, li_64, li_99, li_100, li_200, li_500, li_1439, li_1440, li_3840, li_4000, li_10000, li_60000, li_1000000, li_m1, li_min] at hr hb
  have hh1 : (xI X 4 9).toInt = h := by rw [hH.1, nI_toInt (by have := hH.2.2.1; omega)]
  have hh2 : (xI X 42 7).toInt = h := by rw [hH.2.1, nI_toInt (by have := hH.2.2.1; omega)]
  simp only [Int32.lt_iff_toInt_lt, Int32.le_iff_toInt_le, ← Int32.toInt_inj, u2_ap, reduceIte, Nat.reduceEqDiff, xI, xJ, xR, xS, xN, li_0, li_1, li_2, li_3, li_4, li_5, li_6, li_7, li_8, li_9, li_10, li_11, li_12, li_13, li_14, li_15, li_16, li_20, li_34, li_40, li_50, li_59, li_60, li_64, li_99, li_100, li_200, li_500, li_1439, li_1440, li_3840, li_4000, li_10000, li_60000, li_1000000, li_m1, li_min, ck_0, ck_1, ck_2, ck_3, ck_4] at hh1 hh2
  have hen := hH.2.2.2.2.2.2.1
  have hpd : 0 < h → (xI X 14 6).toInt = 0 → (xI X 80 2).toInt = (xI X 14 12).toInt ∧ xJ X 75 2 = xJ X 15 6 := fun q z => by
    obtain ⟨b1, b2, b3, b4, b5, b6, b7, b8, b9, b10, b11, b12, b13, b14, b15, -⟩ := hG.2.1 z q
    obtain ⟨-, -, -, -, -, -, d7, -⟩ := hH.2.2.2.2.2.2.2.2.2.2 q
    exact ⟨congrArg Int32.toInt (b15.trans d7), b14.trans b1.2.2.2.2.2.2.2.2.1⟩
  have hpj : 0 < h → (xI X 14 6).toInt = 0 → (lg_cmp a0 (xJ X 75 2)).toInt = (lg_cmp a0 (xJ X 15 6)).toInt := fun q z => by rw [(hpd q z).2]
  have hpi : 0 < h → (xI X 14 6).toInt = 0 → (xI X 80 2).toInt = (xI X 14 12).toInt := fun q z => (hpd q z).1
  have hen1 : 0 < h → (xI X 14 6).toInt = 0 → (xI X 42 15).toInt = 1 := fun q z => by rw [hen z, if_pos q]
  have hen0 : ¬ 0 < h → (xI X 14 6).toInt = 0 → (xI X 42 15).toInt = 0 := fun q z => by rw [hen z, if_neg q]
  simp only [Int32.lt_iff_toInt_lt, Int32.le_iff_toInt_le, ← Int32.toInt_inj, u2_ap, reduceIte, Nat.reduceEqDiff, xI, xJ, xR, xS, xN, li_0, li_1, li_2, li_3, li_4, li_5, li_6, li_7, li_8, li_9, li_10, li_11, li_12, li_13, li_14, li_15, li_16, li_20, li_34, li_40, li_50, li_59, li_60, li_64, li_99, li_100, li_200, li_500, li_1439, li_1440, li_3840, li_4000, li_10000, li_60000, li_1000000, li_m1, li_min, ck_0, ck_1, ck_2, ck_3, ck_4] at hpj hpi hen1 hen0
  repeat' (first
    | with_reducible refine i_L_pay ?_
    | with_reducible refine e_L_pay_19 ?_
    | with_reducible refine e_L_pay_17 ?_
    | with_reducible refine e_L_pay_13 ?_
    | with_reducible refine i_X11_pay ?_
    | with_reducible refine e_X11_pay_25 ?_
    | with_reducible refine e_X11_pay_26 ?_
    | with_reducible refine e_X11_pay_48 ?_
    | with_reducible refine e_X11_pay_49 ?_
    | with_reducible refine i_X12_pay ?_
    | with_reducible refine e_X12_pay_33 ?_
    | with_reducible refine e_X12_pay_34 ?_
    | with_reducible refine e_X12_pay_65 ?_
    | with_reducible refine e_X12_pay_57 ?_
    | with_reducible refine e_X12_pay_58 ?_
    | with_reducible refine e_X12_pay_67 ?_
    | with_reducible refine s_right1 ?_
    | with_reducible refine s_right0 (by decide) ?_
    | (with_reducible refine s_rightb (by decide) ?_ ?_ ?_)
    | (show Int32.toInt _ = 0 ∨ Int32.toInt _ = 1; simp only [Int32.lt_iff_toInt_lt, Int32.le_iff_toInt_le, ← Int32.toInt_inj, u2_ap, reduceIte, Nat.reduceEqDiff, xI, xJ, xR, xS, xN, li_0, li_1, li_2, li_3, li_4, li_5, li_6, li_7, li_8, li_9, li_10, li_11, li_12, li_13, li_14, li_15, li_16, li_20, li_34, li_40, li_50, li_59, li_60, li_64, li_99, li_100, li_200, li_500, li_1439, li_1440, li_3840, li_4000, li_10000, li_60000, li_1000000, li_m1, li_min, ck_0, ck_1, ck_2, ck_3, ck_4] <;> omega)
    | with_reducible refine s_isFrom ?_ ?_
    | with_reducible refine s_demand1 ?_
    | with_reducible refine s_demand0 ?_
    | with_reducible refine s_demandSuch1 ?_
    | with_reducible refine s_demandSuch0 ?_
    | with_reducible refine s_demandState1 ?_
    | with_reducible refine s_demandState0 ?_
    | with_reducible refine s_demandPlace ?_ ?_
    | with_reducible refine s_refuse ?_ ?_
    | (with_reducible refine s_hired ?hb ?_ ?_; case hb => assumption)
    | with_reducible refine s_right1 ?_
    | with_reducible refine s_right0 (by decide) ?_
    | with_reducible refine s_thrown ?_
    | with_reducible refine rI_in ?_
    | with_reducible refine rV_in ?_
    | with_reducible refine rL_in ?_
    | with_reducible refine rR_in ?_
    | with_reducible refine ite_t rfl ?_
    | with_reducible refine ite_f (by decide) ?_
    | with_reducible refine gd_in (by decide) ?_
    | with_reducible refine or0_and ?_
    | with_reducible refine or1_and ?_
    | with_reducible refine br_t (by decide) ?_
    | with_reducible refine br_f (by decide) ?_
    | with_reducible refine br_t2 (by decide) ?_
    | with_reducible refine br_f2 (by decide) ?_
    | (with_reducible refine vin_and ?hv ?_; case hv => first | omega | (simp only [Int32.lt_iff_toInt_lt, Int32.le_iff_toInt_le, ← Int32.toInt_inj, u2_ap, reduceIte, Nat.reduceEqDiff, xI, xJ, xR, xS, xN, li_0, li_1, li_2, li_3, li_4, li_5, li_6, li_7, li_8, li_9, li_10, li_11, li_12, li_13, li_14, li_15, li_16, li_20, li_34, li_40, li_50, li_59, li_60, li_64, li_99, li_100, li_200, li_500, li_1439, li_1440, li_3840, li_4000, li_10000, li_60000, li_1000000, li_m1, li_min, ck_0, ck_1, ck_2, ck_3, ck_4] at * <;> omega))
    | (with_reducible refine ne_and ?hv ?_; case hv => decide)
    | (refine hK _ _ (SamS.mk rfl rfl) (fun K2 KX2 hK2 => ?_); try dsimp only [xI, xJ, xR, xS, xN])
    | (with_reducible refine hK2 _ _ ?_; try dsimp only [xI, xJ, xR, xS, xN])
    | exact fin_thr H (by assumption) _ (by decide)
    | exact finL_thr H (by assumption) _ (by decide)
    | exact finB_thr H (by assumption) (by decide)
    | ((with_reducible refine br_s (fun c => ?_) (fun c => ?_)) <;> (try simp only [Int32.lt_iff_toInt_lt, Int32.le_iff_toInt_le, ← Int32.toInt_inj, u2_ap, reduceIte, Nat.reduceEqDiff, xI, xJ, xR, xS, xN, li_0, li_1, li_2, li_3, li_4, li_5, li_6, li_7, li_8, li_9, li_10, li_11, li_12, li_13, li_14, li_15, li_16, li_20, li_34, li_40, li_50, li_59, li_60, li_64, li_99, li_100, li_200, li_500, li_1439, li_1440, li_3840, li_4000, li_10000, li_60000, li_1000000, li_m1, li_min, ck_0, ck_1, ck_2, ck_3, ck_4] at c) <;> (try (exfalso; omega)))
    | ((with_reducible refine br_s2 (fun c => ?_) (fun c => ?_)) <;> (try simp only [Int32.lt_iff_toInt_lt, Int32.le_iff_toInt_le, ← Int32.toInt_inj, u2_ap, reduceIte, Nat.reduceEqDiff, xI, xJ, xR, xS, xN, li_0, li_1, li_2, li_3, li_4, li_5, li_6, li_7, li_8, li_9, li_10, li_11, li_12, li_13, li_14, li_15, li_16, li_20, li_34, li_40, li_50, li_59, li_60, li_64, li_99, li_100, li_200, li_500, li_1439, li_1440, li_3840, li_4000, li_10000, li_60000, li_1000000, li_m1, li_min, ck_0, ck_1, ck_2, ck_3, ck_4] at c) <;> (try (exfalso; omega)))
    | (intro c; (try simp only [Int32.lt_iff_toInt_lt, Int32.le_iff_toInt_le, ← Int32.toInt_inj, u2_ap, reduceIte, Nat.reduceEqDiff, xI, xJ, xR, xS, xN, li_0, li_1, li_2, li_3, li_4, li_5, li_6, li_7, li_8, li_9, li_10, li_11, li_12, li_13, li_14, li_15, li_16, li_20, li_34, li_40, li_50, li_59, li_60, li_64, li_99, li_100, li_200, li_500, li_1439, li_1440, li_3840, li_4000, li_10000, li_60000, li_1000000, li_m1, li_min, ck_0, ck_1, ck_2, ck_3, ck_4] at c) <;> (try (exfalso; omega))))
  have e6 : (xI X 14 6).toInt = 0 := by assumption
  have hd := hH.2.2.2.2.2.2.2.2.2.2
  have q0 : 0 < h := by omega
  obtain ⟨b1, b2, b3, b4, b5, b6, b7, b8, b9, b10, b11, b12, b13, b14, b15, b16⟩ := hG.2.1 e6 q0
  have hg2 := fun (_ : 0 < h) => And.intro b1 (And.intro b2 (And.intro b3 (And.intro b4 (And.intro b5 (And.intro b6 (And.intro b7 (And.intro b8 (And.intro b9 (And.intro b10 (And.intro b11 (And.intro b12 (And.intro b13 (And.intro b14 (And.intro (rfl : (1 : Int32) = 1) b16))))))))))))))
  refine finL_of (n := n) (s := s) (h := h) (l := l) ⟨rlS_n (X := X) hS rfl rfl rfl rfl rfl (Nat.le_refl _), hW, hR, rlT_fr (X := X) (by repeat (first | exact fun _ _ => rfl | refine u2_hi (by decide) ?_ | refine u1_hi (by decide) ?_)) rfl rfl rfl rfl (Nat.le_refl _) rfl rfl hT, hL, hE, hKk, ⟨hH.1, hH.2.1, hH.2.2.1, hH.2.2.2.1, hH.2.2.2.2.1, hH.2.2.2.2.2.1, hH.2.2.2.2.2.2.1, hH.2.2.2.2.2.2.2.1, hH.2.2.2.2.2.2.2.2.1, hH.2.2.2.2.2.2.2.2.2.1, fun q => ⟨(hd q).1, (hd q).2.1, (hd q).2.2.1, (hd q).2.2.2.1, (hd q).2.2.2.2.1, (hd q).2.2.2.2.2.1, rfl, Or.inr rfl⟩⟩, rlC_fr (X := X) (by repeat (first | exact fun _ _ => rfl | refine u2_hi (by decide) ?_ | refine u1_hi (by decide) ?_)) rfl rfl rfl rfl rfl rfl rfl rfl (Nat.le_refl _) rfl hC, ⟨fun z => absurd (e6.symm.trans z) (by decide), fun z q => (hg2 q), ⟨hG.2.2.1.1, hG.2.2.1.2.1, hG.2.2.1.2.2.1, fun z => absurd (e6.symm.trans z) (by decide)⟩, hG.2.2.2⟩⟩ rfl ?_
  show a0 - xJ X 15 6 = a0 - xJ X 75 2
  rw [(hpd q0 e6).2]
end Ops
