/-! lengths by kinds; the reference's nights -/
section Len
variable {X : AX} {K : Option AV → AX → Prop} {KX : String → AX → Prop} {d q k : Nat} {a0 a1 : Int32} {w : Int64}
theorem s_len1 (hc : isC 1 (shp tb0 X d).1 = true) (hc1 : (shp tb0 X d).2 = 1) (hd1 : shp tb0 X (d + 1) = (1, 15)) (h : K (some (vI (xI X (d + 1) 3))) X) : w_X1_lengthBehind tb0 [vR (some d), vL w, vI a1] X K KX := by
  refine i_X1_lengthBehind (gd_in ⟨hc, hc1⟩ ?_)
  rw [hd1]
  exact gd_in rfl ⟨by unfold vp_in; decide, h⟩
theorem s_len2 (hc : isC 2 (shp tb0 X d).1 = true) (hc1 : (shp tb0 X d).2 = 1) (hd1 : shp tb0 X (d + 1) = (1, 15)) (h1 : ¬ w ≤ (xI X (d + 1) 9).toInt64 * a1.toInt64 → K (some (vI (xI X (d + 1) 10))) X) (h0 : ¬ (¬ w ≤ (xI X (d + 1) 9).toInt64 * a1.toInt64) → K (some (vI (xI X (d + 1) 3))) X) : w_X2_lengthBehind tb0 [vR (some d), vL w, vI a1] X K KX := by
  refine i_X2_lengthBehind (gd_in ⟨hc, hc1⟩ ?_)
  rw [hd1]
  refine gd_in rfl ⟨by unfold vp_in; decide, fun c => e_X2_lengthBehind_26 (gd_in ⟨hc, hc1⟩ ?_), fun c => gd_in ⟨hc, hc1⟩ (gd_in rfl ⟨by unfold vp_in; decide, e_X2_lengthBehind_32 (h1 (fun z => c ((lg_cmp_le _ _).mpr z)))⟩)⟩
  rw [hd1]
  exact gd_in rfl ⟨by unfold vp_in; decide, e_X2_lengthBehind_32 (h0 (fun z => z ((lg_cmp_le _ _).mp c)))⟩
theorem s_dlen (hd : shp tb0 X d = (kcl q, 1)) (hd1 : shp tb0 X (d + 1) = (1, 15)) (hq : q < 5) (h1 : (q = 2 ∨ q = 3) ∧ ¬ w ≤ (xI X (d + 1) 9).toInt64 * a1.toInt64 → K (some (vI (xI X (d + 1) 10))) X) (h0 : ¬ ((q = 2 ∨ q = 3) ∧ ¬ w ≤ (xI X (d + 1) 9).toInt64 * a1.toInt64) → K (some (vI (xI X (d + 1) 3))) X) : dsp (shp tb0 X d).1 (fun v => v [vR (some d), vL w, vI a1] X K (fun _ _ => False)) [(0, w_X1_lengthBehind tb0), (1, w_X1_lengthBehind tb0), (2, w_X2_lengthBehind tb0), (3, w_X2_lengthBehind tb0), (6, w_X1_lengthBehind tb0)] := by
  have hc : isC 1 (shp tb0 X d).1 = true := by rw [hd]; exact isC_k q hq
  have hc1 : (shp tb0 X d).2 = 1 := by rw [hd]
  have hc2 : q = 2 ∨ q = 3 → isC 2 (shp tb0 X d).1 = true := fun z => by
    rw [hd]
    rcases z with z | z <;> subst z <;> decide
  generalize hcc : (shp tb0 X d).1 = c
  have hck : c = kcl q := by rw [← hcc, hd]
  subst hck
  have hq5 : q = 0 ∨ q = 1 ∨ q = 2 ∨ q = 3 ∨ q = 4 := by omega
  rcases hq5 with rfl | rfl | rfl | rfl | rfl
  · exact ⟨fun z => absurd z (by decide), fun _ => ⟨fun _ => s_len1 hc hc1 hd1 (h0 (fun z => absurd z.1 (by decide))), fun z => absurd rfl z⟩⟩
  · exact ⟨fun z => absurd z (by decide), fun _ => ⟨fun z => absurd z (by decide), fun _ => ⟨fun z => absurd z (by decide), fun _ => ⟨fun z => absurd z (by decide), fun _ => ⟨fun _ => s_len1 hc hc1 hd1 (h0 (fun z => absurd z.1 (by decide))), fun z => absurd rfl z⟩⟩⟩⟩⟩
  · exact ⟨fun z => absurd z (by decide), fun _ => ⟨fun z => absurd z (by decide), fun _ => ⟨fun _ => s_len2 (hc2 (Or.inl rfl)) hc1 hd1 (fun z => h1 ⟨Or.inl rfl, z⟩) (fun z => h0 (fun v => z v.2)), fun z => absurd rfl z⟩⟩⟩
  · exact ⟨fun z => absurd z (by decide), fun _ => ⟨fun z => absurd z (by decide), fun _ => ⟨fun z => absurd z (by decide), fun _ => ⟨fun _ => s_len2 (hc2 (Or.inr rfl)) hc1 hd1 (fun z => h1 ⟨Or.inr rfl, z⟩) (fun z => h0 (fun v => z v.2)), fun z => absurd rfl z⟩⟩⟩⟩
  · exact ⟨fun _ => s_len1 hc hc1 hd1 (h0 (fun z => absurd z.1 (by decide))), fun z => absurd rfl z⟩
set_option maxHeartbeats 4000000 in
theorem s_mnight (hk : k < 12) (h1 : night (xI X 46 (15 * k + 6)).toInt (xI X 46 (15 * k + 7)).toInt a1.toInt → K (some (vI 1)) X) (h0 : ¬ night (xI X 46 (15 * k + 6)).toInt (xI X 46 (15 * k + 7)).toInt a1.toInt → K (some (vI 0)) X) : w_X12_isNight tb0 [vR (some 42), vI (nI k), vI a1] X K KX := by
  unfold night at h1 h0
  dsimp only [xI] at h1 h0
  refine i_X12_isNight (s_num (j := 6) hk (by decide) (rI_in (s_num (j := 7) hk (by decide) (rI_in ?_))))
  repeat' (first
    | with_reducible refine i_X12_isNight ?_
    | with_reducible refine e_X12_isNight_42 ?_
    | with_reducible refine e_X12_isNight_38 ?_
    | with_reducible refine e_X12_isNight_64 ?_
    | with_reducible refine e_X12_isNight_63 ?_
    | with_reducible refine e_X12_isNight_59 ?_
    | exact h1 (by omega)
    | exact h0 (by omega)
    | with_reducible refine s_isFrom ?_ ?_
    | with_reducible refine s_demand1 ?_
    | with_reducible refine s_demand0 ?_
    | with_reducible refine s_demandSuch1 ?_
    | with_reducible refine s_demandSuch0 ?_
    | with_reducible refine s_demandState1 ?_
    | with_reducible refine s_demandState0 ?_
    | with_reducible refine s_demandPlace ?_ ?_
    | with_reducible refine s_refuse ?_ ?_
    | (with_reducible refine s_hired ?hb ?_ ?_; case hb => assumption)
    | with_reducible refine s_right1 ?_
    | with_reducible refine s_right0 (by decide) ?_
    | with_reducible refine s_thrown ?_
    | with_reducible refine rI_in ?_
    | with_reducible refine rV_in ?_
    | with_reducible refine rL_in ?_
    | with_reducible refine rR_in ?_
    | with_reducible refine ite_t rfl ?_
    | with_reducible refine ite_f (by decide) ?_
    | with_reducible refine gd_in (by decide) ?_
    | with_reducible refine or0_and ?_
    | with_reducible refine or1_and ?_
    | with_reducible refine br_t (by decide) ?_
    | with_reducible refine br_f (by decide) ?_
    | with_reducible refine br_t2 (by decide) ?_
    | with_reducible refine br_f2 (by decide) ?_
    | (with_reducible refine vin_and ?hv ?_; case hv => first | omega | (simp only [Int32.lt_iff_toInt_lt, Int32.le_iff_toInt_le, ← Int32.toInt_inj, u2_ap, reduceIte, Nat.reduceEqDiff, xI, xJ, xR, xS, xN, li_0, li_1, li_2, li_3, li_4, li_5, li_6, li_7, li_8, li_9, li_10, li_11, li_12, li_13, li_14, li_15, li_16, li_20, li_34, li_40, li_50, li_59, li_60, li_64, li_99, li_100, li_200, li_500, li_1439, li_1440, li_3840, li_4000, li_10000, li_60000, li_1000000, li_m1, li_min, ck_0, ck_1, ck_2, ck_3, ck_4] at * <;> omega))
    | (with_reducible refine ne_and ?hv ?_; case hv => decide)
    | ((with_reducible refine br_s (fun c => ?_) (fun c => ?_)) <;> (try simp only [Int32.lt_iff_toInt_lt, Int32.le_iff_toInt_le, ← Int32.toInt_inj, u2_ap, reduceIte, Nat.reduceEqDiff, xI, xJ, xR, xS, xN, li_0, li_1, li_2, li_3, li_4, li_5, li_6, li_7, li_8, li_9, li_10, li_11, li_12, li_13, li_14, li_15, li_16, li_20, li_34, li_40, li_50, li_59, li_60, li_64, li_99, li_100, li_200, li_500, li_1439, li_1440, li_3840, li_4000, li_10000, li_60000, li_1000000, li_m1, li_min, ck_0, ck_1, ck_2, ck_3, ck_4] at c) <;> (try (exfalso; omega)))
    | ((with_reducible refine br_s2 (fun c => ?_) (fun c => ?_)) <;> (try simp only [Int32.lt_iff_toInt_lt, Int32.le_iff_toInt_le, ← Int32.toInt_inj, u2_ap, reduceIte, Nat.reduceEqDiff, xI, xJ, xR, xS, xN, li_0, li_1, li_2, li_3, li_4, li_5, li_6, li_7, li_8, li_9, li_10, li_11, li_12, li_13, li_14, li_15, li_16, li_20, li_34, li_40, li_50, li_59, li_60, li_64, li_99, li_100, li_200, li_500, li_1439, li_1440, li_3840, li_4000, li_10000, li_60000, li_1000000, li_m1, li_min, ck_0, ck_1, ck_2, ck_3, ck_4] at c) <;> (try (exfalso; omega)))
    | ((with_reducible intro c); (try simp only [Int32.lt_iff_toInt_lt, Int32.le_iff_toInt_le, ← Int32.toInt_inj, u2_ap, reduceIte, Nat.reduceEqDiff, xI, xJ, xR, xS, xN, li_0, li_1, li_2, li_3, li_4, li_5, li_6, li_7, li_8, li_9, li_10, li_11, li_12, li_13, li_14, li_15, li_16, li_20, li_34, li_40, li_50, li_59, li_60, li_64, li_99, li_100, li_200, li_500, li_1439, li_1440, li_3840, li_4000, li_10000, li_60000, li_1000000, li_m1, li_min, ck_0, ck_1, ck_2, ck_3, ck_4] at c) <;> (try (exfalso; omega))))
end Len
