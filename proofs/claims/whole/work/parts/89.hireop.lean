/-! hire, the call -/
section Ops
variable {L : Nat} {xs : Nat → Int32} {t n s h l : Nat} {X : AX} {K : Option AV → AX → Prop} {KX : String → AX → Prop}
set_option maxHeartbeats 4000000 in
theorem op_hire {a0 a1 a2 a3 : Int32} (ht : t < 600) (H : Rel L xs t n s h l X) (hK : ∀ c X1, SamS X X1 → (∀ K2 KX2, (∀ b X4, FinI L xs t c b X4 → K2 (some (vI b)) X4) → w_X12_hire tb0 [vR (some 42), vI a0, vI a1, vI a2, vI a3] X1 K2 KX2) → K (some (vI c)) X1) : w_L_hire tb0 [vR (some 4), vI a0, vI a1, vI a2, vI a3, vR (some 91)] X K KX := by
  obtain ⟨hS, hW, hR, hT, hL, hE, hKk, hH, hC, hG⟩ := id H
  have hhx : (xI X 4 9).toInt = h := by rw [hH.1, nI_toInt (by have := hH.2.2.1; omega)]
  have hhy : (xI X 42 7).toInt = h := by rw [hH.2.1, nI_toInt (by have := hH.2.2.1; omega)]
  have hht := hH.2.2.1
  have hr := congrArg Int32.toInt hH.2.2.2.1
  have hb2 := b_toInt hH.2.2.2.2.1
  have hslf : 0 ≤ a0.toInt → a0.toInt < 12 → xI X 47 a0.toNatClampNeg = xI X 9 a0.toNatClampNeg ∧ xI X 48 a0.toNatClampNeg = xI X 10 a0.toNatClampNeg ∧ bnd (xI X 9 a0.toNatClampNeg) 0 2 := fun q1 q2 => by
    have := clp q1
    obtain ⟨e1, e2, e3, -⟩ := hL a0.toNatClampNeg (by omega)
    exact ⟨e1, e2, e3⟩
  by_cases hin : ((xI X 14 6).toInt = 0 ∧ 0 ≤ a0.toInt ∧ a0.toInt < 12 ∧ 0 ≤ a1.toInt ∧ a1.toInt ≤ 99 ∧ 0 ≤ a2.toInt ∧ a2.toInt ≤ 1439 ∧ 0 ≤ a3.toInt ∧ a3.toInt ≤ 59) ∧ (xI X 9 a0.toNatClampNeg).toInt = 1
  · obtain ⟨⟨h6, h0, h12, hbeg⟩, h9⟩ := hin
    refine i_L_hire (c_hire hT hL hE h6 h0 h12 hbeg h9 (by omega) (fun d q y X1 hd hq hkd hb hy hStd => rI_in ⟨by unfold vp_in; decide, e_L_hire_33 (hK _ _ (SamS.mk ?_ ?_) (fun K2 KX2 hK2 => ?_))⟩))
    · exact congrFun hStd.1 0
    · show u2 (xI X1) 4 9 (xI X1 4 9 + 1) 0 = xI X 0
      rw [u2_ne _ _ _ (by decide)]
      exact hStd.2.2.2.2.1 0 (by decide) (by decide) (by decide) (by decide) (by decide)
    · obtain ⟨s1, s2, s3⟩ := hslf h0 h12
      have x1 : ∀ i, i ≠ 14 → (i < 15 ∨ 19 < i) → xI X1 i = xI X i := fun i q1 q2 => by
        refine (hStd.2.2.2.2.1 i (by omega) (by omega) (by omega) (by omega) (by omega)).trans ?_
        show u2 (u2 (u2 (u2 (u2 (u2 (u2 (u2 (xI X) 14 5 (xI X 4 9)) 14 6 1) 14 7 a1) 14 8 (-1)) 14 9 (xI X 11 2)) 14 10 y) 14 11 0) 14 12 0 i = _
        rw [u2_ne _ _ _ q1, u2_ne _ _ _ q1, u2_ne _ _ _ q1, u2_ne _ _ _ q1, u2_ne _ _ _ q1, u2_ne _ _ _ q1, u2_ne _ _ _ q1, u2_ne _ _ _ q1]
      have hb' := hb
      unfold bnd at hb'
      have hck := clp hb'.1
      have hn12 := hT.2.2.1
      have x14 : xI X1 14 5 = xI X 4 9 := congrFun (hStd.2.2.2.2.1 14 (by decide) (by decide) (by decide) (by decide) (by decide)) 5
      refine m_hire (S := xS X1) (F := u2 (xI X1) 4 9 (xI X1 4 9 + 1)) (J := u2 (xJ X1) 91 0 (Int32.toInt64 (xI X1 14 5))) (R := xR X1) (nn := xN X1) (k := (xI X 10 a0.toNatClampNeg).toNatClampNeg) (q := q) (sq := s) ?_ h0 h12 hbeg ?_ ?_ (by omega) hq ?_ ?_ ?_ hE.2.2.1 (fun X4 y' hB hy' => hK2 _ _ ⟨⟨n, s, h + 1, l, rel_hire ht H h6 (by omega) hd hq hkd ⟨hbeg.2.2.1, hbeg.2.2.2.1⟩ ⟨hbeg.2.2.2.2.1, hbeg.2.2.2.2.2⟩ hy hStd hB hy'⟩, ?_, fun _ => ?_⟩)
      · show (xI X1 42 14).toInt = 0
        rw [x1 42 (by decide) (by decide), hr]; exact h6
      · show (xI X1 47 a0.toNatClampNeg).toInt = 1
        rw [x1 47 (by decide) (by decide), s1]; exact h9
      · show xI X1 48 a0.toNatClampNeg = _
        rw [x1 48 (by decide) (by decide), s2]; exact nI_ofI hb'.1
      · show xI X1 45 _ = _
        rw [x1 45 (by decide) (by decide)]; exact hkd
      · show ¬ (xI X1 42 7).toInt = 4000
        rw [x1 42 (by decide) (by decide)]; omega
      · show xI X1 42 6 = _
        rw [x1 42 (by decide) (by decide)]; exact hE.2.1
      · show xI X4 42 0 = 0
        rw [hB.2.2.2.1 42 (by decide) (by decide)]; rfl
      · show xJ X4 91 0 = (xI X4 42 7).toInt64
        rw [hB.2.2.2.2.1 91 (by decide), hB.2.2.2.1 42 (by decide) (by decide)]
        show (xI X1 14 5).toInt64 = (xI X1 42 7).toInt64
        rw [x14, x1 42 (by decide) (by decide), hH.1, hH.2.1]
  · have hsx : 0 ≤ a0.toInt → a0.toInt < 12 → (xI X 47 a0.toNatClampNeg).toInt = (xI X 9 a0.toNatClampNeg).toInt ∧ 0 ≤ (xI X 47 a0.toNatClampNeg).toInt ∧ (xI X 47 a0.toNatClampNeg).toInt ≤ 2 := fun q1 q2 => by
      obtain ⟨e1, e2, e3⟩ := hslf q1 q2
      rw [e1]; exact ⟨rfl, e3⟩
    have hsy := hsx
    simp only [Int32.lt_iff_toInt_lt, Int32.le_iff_toInt_le, ← Int32.toInt_inj, u2_ap, reduceIte, Nat.reduceEqDiff, xI, xJ, xR, xS, xN, li_0, li_1, li_2, li_3, li_4, li_5, li_6, li_7, li_8, li_9, li_10, li_11, li_12, li_13, li_14, li_15, li_16, li_20, li_34, li_40, li_50, li_59, li_60, li_64, li_99, li_100, li_200, li_500, li_1439, li_1440, li_3840, li_4000, li_10000, li_60000, li_1000000, li_m1, li_min, ck_0, ck_1, ck_2, ck_3, ck_4] at hhx hhy hr hb2 hin hsx
    repeat' (first
      | with_reducible refine i_L_hire ?_
      | with_reducible refine e_L_hire_33 ?_
      | with_reducible refine e_L_hire_31 ?_
      | with_reducible refine e_L_hire_27 ?_
      | with_reducible refine e_L_hire_23 ?_
      | with_reducible refine e_L_hire_19 ?_
      | with_reducible refine i_X11_hire ?_
      | with_reducible refine e_X11_hire_36 ?_
      | with_reducible refine i_X12_hire ?_
      | with_reducible refine e_X12_hire_17 ?_
      | with_reducible refine e_X12_hire_18 ?_
      | with_reducible refine e_X12_hire_56 ?_
      | with_reducible refine e_X12_hire_58 ?_
      | with_reducible refine e_X12_hire_70 ?_
      | with_reducible refine e_X12_hire_167 ?_
      | with_reducible refine e_X12_hire_157 ?_
      | with_reducible refine e_X12_hire_158 ?_
      | with_reducible refine i_X12_isSlot ?_
      | with_reducible refine e_X12_isSlot_15 ?_
      | with_reducible refine e_X12_isSlot_16 ?_
      | with_reducible refine s_demandBeginning ?_ ?_
      | ((with_reducible refine s_tariffHeld (n := n) (s := s) hT hL ?_ ?_ ?_ ?_ ?_); (· omega); (· omega))
      | ((with_reducible refine s_isBeginning ?_ ?_ ?_); (· decide))
      | ((with_reducible refine s_isHeld ?_ ?_ ?_ ?_ ?_ ?_ ?_ ?_); (· omega); (· omega); (· decide); (· decide); (· exact (hsy (by omega) (by omega)).2))
      | with_reducible refine s_isFrom ?_ ?_
      | with_reducible refine s_demand1 ?_
      | with_reducible refine s_demand0 ?_
      | with_reducible refine s_demandSuch1 ?_
      | with_reducible refine s_demandSuch0 ?_
      | with_reducible refine s_demandState1 ?_
      | with_reducible refine s_demandState0 ?_
      | with_reducible refine s_demandPlace ?_ ?_
      | with_reducible refine s_refuse ?_ ?_
      | (with_reducible refine s_hired ?hb ?_ ?_; case hb => assumption)
      | with_reducible refine s_right1 ?_
      | with_reducible refine s_right0 (by decide) ?_
      | with_reducible refine s_thrown ?_
      | with_reducible refine rI_in ?_
      | with_reducible refine rV_in ?_
      | with_reducible refine rL_in ?_
      | with_reducible refine rR_in ?_
      | with_reducible refine ite_t rfl ?_
      | with_reducible refine ite_f (by decide) ?_
      | with_reducible refine gd_in (by decide) ?_
      | with_reducible refine or0_and ?_
      | with_reducible refine or1_and ?_
      | with_reducible refine br_t (by decide) ?_
      | with_reducible refine br_f (by decide) ?_
      | with_reducible refine br_t2 (by decide) ?_
      | with_reducible refine br_f2 (by decide) ?_
      | (with_reducible refine vin_and ?hv ?_; case hv => first | omega | (simp only [Int32.lt_iff_toInt_lt, Int32.le_iff_toInt_le, ← Int32.toInt_inj, u2_ap, reduceIte, Nat.reduceEqDiff, xI, xJ, xR, xS, xN, li_0, li_1, li_2, li_3, li_4, li_5, li_6, li_7, li_8, li_9, li_10, li_11, li_12, li_13, li_14, li_15, li_16, li_20, li_34, li_40, li_50, li_59, li_60, li_64, li_99, li_100, li_200, li_500, li_1439, li_1440, li_3840, li_4000, li_10000, li_60000, li_1000000, li_m1, li_min, ck_0, ck_1, ck_2, ck_3, ck_4] at * <;> omega))
      | (with_reducible refine ne_and ?hv ?_; case hv => decide)
      | (refine hK _ _ (SamS.mk rfl rfl) (fun K2 KX2 hK2 => ?_); try dsimp only [xI, xJ, xR, xS, xN])
      | (with_reducible refine hK2 _ _ ?_; try dsimp only [xI, xJ, xR, xS, xN])
      | exact fin_thr H (by assumption) _ (by decide)
      | exact finL_thr H (by assumption) _ (by decide)
      | exact finB_thr H (by assumption) (by decide)
      | ((with_reducible refine br_s (fun c => ?_) (fun c => ?_)) <;> (try simp only [Int32.lt_iff_toInt_lt, Int32.le_iff_toInt_le, ← Int32.toInt_inj, u2_ap, reduceIte, Nat.reduceEqDiff, xI, xJ, xR, xS, xN, li_0, li_1, li_2, li_3, li_4, li_5, li_6, li_7, li_8, li_9, li_10, li_11, li_12, li_13, li_14, li_15, li_16, li_20, li_34, li_40, li_50, li_59, li_60, li_64, li_99, li_100, li_200, li_500, li_1439, li_1440, li_3840, li_4000, li_10000, li_60000, li_1000000, li_m1, li_min, ck_0, ck_1, ck_2, ck_3, ck_4] at c) <;> (try (exfalso; omega)))
      | ((with_reducible refine br_s2 (fun c => ?_) (fun c => ?_)) <;> (try simp only [Int32.lt_iff_toInt_lt, Int32.le_iff_toInt_le, ← Int32.toInt_inj, u2_ap, reduceIte, Nat.reduceEqDiff, xI, xJ, xR, xS, xN, li_0, li_1, li_2, li_3, li_4, li_5, li_6, li_7, li_8, li_9, li_10, li_11, li_12, li_13, li_14, li_15, li_16, li_20, li_34, li_40, li_50, li_59, li_60, li_64, li_99, li_100, li_200, li_500, li_1439, li_1440, li_3840, li_4000, li_10000, li_60000, li_1000000, li_m1, li_min, ck_0, ck_1, ck_2, ck_3, ck_4] at c) <;> (try (exfalso; omega)))
      | ((with_reducible intro c); (try simp only [Int32.lt_iff_toInt_lt, Int32.le_iff_toInt_le, ← Int32.toInt_inj, u2_ap, reduceIte, Nat.reduceEqDiff, xI, xJ, xR, xS, xN, li_0, li_1, li_2, li_3, li_4, li_5, li_6, li_7, li_8, li_9, li_10, li_11, li_12, li_13, li_14, li_15, li_16, li_20, li_34, li_40, li_50, li_59, li_60, li_64, li_99, li_100, li_200, li_500, li_1439, li_1440, li_3840, li_4000, li_10000, li_60000, li_1000000, li_m1, li_min, ck_0, ck_1, ck_2, ck_3, ck_4] at c) <;> (try (exfalso; omega))))
end Ops
