/-! the calls, one by one -/
theorem rlR_len {X X' : AX} {r : Nat} {v v' : Int32} (h : rlR X) (h7 : xI X' 7 = stf (xI X 7) r v) (h43 : xI X' 43 = stf (xI X 43) r v') (h6 : xI X' 6 = xI X 6) (h44 : xI X' 44 = xI X 44) (e : v' = v) (hv : bnd v (-1) 60) : rlR X' := by
  subst e
  refine ⟨fun q hq => ?_, by rw [h6, h44]; exact h.2⟩
  rw [h7, h43]
  by_cases e : q = r
  · subst e; rw [stf_at, stf_at]; exact ⟨rfl, hv⟩
  · rw [stf_ne _ _ e, stf_ne _ _ e]; exact h.1 q hq
theorem rlR_pul {X X' : AX} {r : Nat} {v v' : Int32} (h : rlR X) (h6 : xI X' 6 = stf (xI X 6) r v) (h44 : xI X' 44 = stf (xI X 44) r v') (h7 : xI X' 7 = xI X 7) (h43 : xI X' 43 = xI X 43) (e : v' = v) (hv : bnd v 0 500) : rlR X' := by
  subst e
  refine ⟨by rw [h7, h43]; exact h.1, fun q hq => ?_⟩
  rw [h6, h44]
  by_cases e : q = r
  · subst e; rw [stf_at, stf_at]; exact ⟨rfl, hv⟩
  · rw [stf_ne _ _ e, stf_ne _ _ e]; exact h.2 q hq
theorem x_tear_51 {l1 l2 l3 s0 : Int32} {X : AX} {K : Option AV → AX → Prop} {KX : String → AX → Prop} (h1 : l3.toInt < l2.toInt → r_X11_tear tb0 K KX 56 [some (vR (some 4)), some (vI l1), some (vI l2), some (vI l3)] [vI l3, vI s0, vR (some 7)] X 2 12) (h2 : ¬ l3.toInt < l2.toInt → r_X11_tear tb0 K KX 56 [some (vR (some 4)), some (vI l1), some (vI l2), some (vI l3)] [vI l2, vI s0, vR (some 7)] X 2 12) : r_X11_tear tb0 K KX 51 [some (vR (some 4)), some (vI l1), some (vI l2), some (vI l3)] [vI s0, vR (some 7)] X 2 12 := by
  refine e_X11_tear_51 ?_
  by_cases c : l3 < l2
  · rw [if_pos c]; exact h1 (Int32.lt_iff_toInt_lt.mp c)
  · rw [if_neg c]; exact h2 (fun z => c (Int32.lt_iff_toInt_lt.mpr z))
theorem nar_s {v : Int32} (h0 : 0 ≤ v.toInt) (h1 : v.toInt ≤ 500) : vp_nar .short (Int16.toInt32 (Int32.toInt16 v)) = v := by
  have e : v = nI v.toInt.toNat := nI_ofI h0
  have : ∀ j : Nat, j < 501 → vp_nar .short (Int16.toInt32 (Int32.toInt16 (nI j))) = nI j := by decide +kernel
  rw [e]; exact this _ (by omega)
section Ops
variable {L : Nat} {xs : Nat → Int32} {t n s h l : Nat} {X : AX} {K : Option AV → AX → Prop} {KX : String → AX → Prop}
theorem fin_read {b : Int32} {v : Int64} (H : Rel L xs t n s h l X) (e : v = b.toInt64) : FinI L xs t 0 b (xS X, u2 (xI X) 42 0 0, u2 (xJ X) 91 0 v, xR X, xN X) := by
  obtain ⟨hS, hW, hR, hT, hL, hE, hKk, hH, hC, hG⟩ := id H
  exact fin_of (n := n) (s := s) (h := h) (l := l) ⟨rlS_n (X := X) hS rfl rfl rfl rfl rfl (Nat.le_refl _), hW, hR, rlT_fr (X := X) (by repeat (first | exact fun _ _ => rfl | refine u2_hi (by decide) ?_ | refine u1_hi (by decide) ?_)) rfl rfl rfl rfl (Nat.le_refl _) rfl rfl hT, hL, hE, hKk, hH, rlC_fr (X := X) (by repeat (first | exact fun _ _ => rfl | refine u2_hi (by decide) ?_ | refine u1_hi (by decide) ?_)) rfl rfl rfl rfl rfl rfl rfl rfl (Nat.le_refl _) rfl hC, hG⟩ rfl e
theorem finL_read {v : Int64} (H : Rel L xs t n s h l X) : FinL L xs t 0 v (xS X, u2 (xI X) 42 0 0, u2 (xJ X) 91 0 v, xR X, xN X) := by
  obtain ⟨hS, hW, hR, hT, hL, hE, hKk, hH, hC, hG⟩ := id H
  exact finL_of (n := n) (s := s) (h := h) (l := l) ⟨rlS_n (X := X) hS rfl rfl rfl rfl rfl (Nat.le_refl _), hW, hR, rlT_fr (X := X) (by repeat (first | exact fun _ _ => rfl | refine u2_hi (by decide) ?_ | refine u1_hi (by decide) ?_)) rfl rfl rfl rfl (Nat.le_refl _) rfl rfl hT, hL, hE, hKk, hH, rlC_fr (X := X) (by repeat (first | exact fun _ _ => rfl | refine u2_hi (by decide) ?_ | refine u1_hi (by decide) ?_)) rfl rfl rfl rfl rfl rfl rfl rfl (Nat.le_refl _) rfl hC, hG⟩ rfl rfl
set_option maxHeartbeats 4000000 in
theorem op_wheel {a0 a1 a2 : Int32} (H : Rel L xs t n s h l X) (hK : ∀ c X1, SamS X X1 → (∀ K2 KX2, (∀ b X4, FinI L xs t c b X4 → K2 (some (vI b)) X4) → w_X12_wheel tb0 [vR (some 42), vI a0, vI a1, vI a2] X1 K2 KX2) → K (some (vI c)) X1) : w_L_wheel tb0 [vR (some 4), vI a0, vI a1, vI a2, vR (some 91)] X K KX := by
  obtain ⟨hS, hW, hR, hT, hL, hE, hKk, hH, hC, hG⟩ := id H
  have hr := congrArg Int32.toInt hH.2.2.2.1
  have hb := b_toInt hH.2.2.2.2.1
  simp only [Int32.lt_iff_toInt_lt, Int32.le_iff_toInt_le, ← Int32.toInt_inj, u2_ap, reduceIte, Nat.reduceEqDiff, xI, xJ, xR, xS, xN, li_0, li_1, li_2, li_3, li_4, li_5, li_6, li_7, li_8, li_9, li_10, li_11, li_12, li_13, li_14, li_15, li_16, li_20, li_34, li_40, li_50, li_59, li_60, li_64, li_99, li_100, li_200, li_500, li_1439, li_1440, li_3840, li_4000, li_10000, li_60000, li_1000000, li_m1, li_min] at hr hb
  have hfl := fun h0 h1 => fl_ok (a := a0) (s := a1) h0 h1
  repeat' (first
    | with_reducible refine i_L_wheel ?_
    | with_reducible refine e_L_wheel_23 ?_
    | with_reducible refine e_L_wheel_21 ?_
    | with_reducible refine e_L_wheel_17 ?_
    | with_reducible refine i_X11_wheel ?_
    | with_reducible refine e_X11_wheel_35 ?_
    | with_reducible refine e_X11_wheel_36 ?_
    | with_reducible refine i_X12_wheel ?_
    | with_reducible refine e_X12_wheel_17 ?_
    | with_reducible refine e_X12_wheel_18 ?_
    | with_reducible refine e_X12_wheel_27 ?_
    | with_reducible refine e_X12_wheel_60 ?_
    | with_reducible refine e_X12_wheel_61 ?_
    | with_reducible refine e_X12_wheel_70 ?_
    | with_reducible refine e_X12_wheel_103 ?_
    | with_reducible refine e_X12_wheel_104 ?_
    | with_reducible refine e_X12_wheel_113 ?_
    | (refine ⟨(hfl (by omega) (by omega)).1, (hfl (by omega) (by omega)).2, ?_⟩)
    | with_reducible refine s_isFrom ?_ ?_
    | with_reducible refine s_demand1 ?_
    | with_reducible refine s_demand0 ?_
    | with_reducible refine s_demandSuch1 ?_
    | with_reducible refine s_demandSuch0 ?_
    | with_reducible refine s_demandState1 ?_
    | with_reducible refine s_demandState0 ?_
    | with_reducible refine s_demandPlace ?_ ?_
    | with_reducible refine s_refuse ?_ ?_
    | (with_reducible refine s_hired ?hb ?_ ?_; case hb => assumption)
    | with_reducible refine s_right1 ?_
    | with_reducible refine s_right0 (by decide) ?_
    | with_reducible refine s_thrown ?_
    | with_reducible refine rI_in ?_
    | with_reducible refine rV_in ?_
    | with_reducible refine rL_in ?_
    | with_reducible refine rR_in ?_
    | with_reducible refine ite_t rfl ?_
    | with_reducible refine ite_f (by decide) ?_
    | with_reducible refine gd_in (by decide) ?_
    | with_reducible refine or0_and ?_
    | with_reducible refine or1_and ?_
    | with_reducible refine br_t (by decide) ?_
    | with_reducible refine br_f (by decide) ?_
    | with_reducible refine br_t2 (by decide) ?_
    | with_reducible refine br_f2 (by decide) ?_
    | (with_reducible refine vin_and ?hv ?_; case hv => first | omega | (simp only [Int32.lt_iff_toInt_lt, Int32.le_iff_toInt_le, ← Int32.toInt_inj, u2_ap, reduceIte, Nat.reduceEqDiff, xI, xJ, xR, xS, xN, li_0, li_1, li_2, li_3, li_4, li_5, li_6, li_7, li_8, li_9, li_10, li_11, li_12, li_13, li_14, li_15, li_16, li_20, li_34, li_40, li_50, li_59, li_60, li_64, li_99, li_100, li_200, li_500, li_1439, li_1440, li_3840, li_4000, li_10000, li_60000, li_1000000, li_m1, li_min] at * <;> omega))
    | (with_reducible refine ne_and ?hv ?_; case hv => decide)
    | (refine hK _ _ (SamS.mk rfl rfl) (fun K2 KX2 hK2 => ?_); try dsimp only [xI, xJ, xR, xS, xN])
    | (with_reducible refine hK2 _ _ ?_; try dsimp only [xI, xJ, xR, xS, xN])
    | exact fin_thr H (by assumption) _ (by decide)
    | exact finL_thr H (by assumption) _ (by decide)
    | exact finB_thr H (by assumption) (by decide)
    | ((with_reducible refine br_s (fun c => ?_) (fun c => ?_)) <;> (try simp only [Int32.lt_iff_toInt_lt, Int32.le_iff_toInt_le, ← Int32.toInt_inj, u2_ap, reduceIte, Nat.reduceEqDiff, xI, xJ, xR, xS, xN, li_0, li_1, li_2, li_3, li_4, li_5, li_6, li_7, li_8, li_9, li_10, li_11, li_12, li_13, li_14, li_15, li_16, li_20, li_34, li_40, li_50, li_59, li_60, li_64, li_99, li_100, li_200, li_500, li_1439, li_1440, li_3840, li_4000, li_10000, li_60000, li_1000000, li_m1, li_min] at c) <;> (try (exfalso; omega)))
    | ((with_reducible refine br_s2 (fun c => ?_) (fun c => ?_)) <;> (try simp only [Int32.lt_iff_toInt_lt, Int32.le_iff_toInt_le, ← Int32.toInt_inj, u2_ap, reduceIte, Nat.reduceEqDiff, xI, xJ, xR, xS, xN, li_0, li_1, li_2, li_3, li_4, li_5, li_6, li_7, li_8, li_9, li_10, li_11, li_12, li_13, li_14, li_15, li_16, li_20, li_34, li_40, li_50, li_59, li_60, li_64, li_99, li_100, li_200, li_500, li_1439, li_1440, li_3840, li_4000, li_10000, li_60000, li_1000000, li_m1, li_min] at c) <;> (try (exfalso; omega)))
    | (intro c; (try simp only [Int32.lt_iff_toInt_lt, Int32.le_iff_toInt_le, ← Int32.toInt_inj, u2_ap, reduceIte, Nat.reduceEqDiff, xI, xJ, xR, xS, xN, li_0, li_1, li_2, li_3, li_4, li_5, li_6, li_7, li_8, li_9, li_10, li_11, li_12, li_13, li_14, li_15, li_16, li_20, li_34, li_40, li_50, li_59, li_60, li_64, li_99, li_100, li_200, li_500, li_1439, li_1440, li_3840, li_4000, li_10000, li_60000, li_1000000, li_m1, li_min] at c) <;> (try (exfalso; omega))))
  have hw1 : bnd (FP.f2i (FP.fmul (FP.fdiv (FP.i2f a0) (FP.i2f (1 <<< (a1 &&& 31)))) 1148846080)) 100 10000 := ⟨by assumption, by assumption⟩
  have hw2 : bnd a2 1 200 := ⟨by assumption, by assumption⟩
  have h0 : (xI X 14 6).toInt = 0 := by assumption
  exact fin_of (n := n) (s := s) (h := h) (l := l) ⟨rlS_n (X := X) hS rfl rfl rfl rfl rfl (Nat.le_refl _), ⟨rfl, hw1, rfl, hw2⟩, hR, rlT_fr (X := X) (by repeat (first | exact fun _ _ => rfl | refine u2_hi (by decide) ?_ | refine u1_hi (by decide) ?_)) rfl rfl rfl rfl (Nat.le_refl _) rfl rfl hT, hL, hE, hKk, hH, rlC_fr (X := X) (by repeat (first | exact fun _ _ => rfl | refine u2_hi (by decide) ?_ | refine u1_hi (by decide) ?_)) rfl rfl rfl rfl rfl rfl rfl rfl (Nat.le_refl _) rfl hC, ⟨fun z => absurd (h0.symm.trans z) (by decide), hG.2.1, ⟨hG.2.2.1.1, hG.2.2.1.2.1, hG.2.2.1.2.2.1, fun z => absurd (h0.symm.trans z) (by decide)⟩, hG.2.2.2⟩⟩ rfl rfl
set_option maxHeartbeats 4000000 in
theorem op_pulses {a0 a1 : Int32} (H : Rel L xs t n s h l X) (hK : ∀ c X1, SamS X X1 → (∀ K2 KX2, (∀ b X4, FinI L xs t c b X4 → K2 (some (vI b)) X4) → w_X12_pulses tb0 [vR (some 42), vI a0, vI a1] X1 K2 KX2) → K (some (vI c)) X1) : w_L_pulses tb0 [vR (some 4), vI a0, vI a1, vR (some 91)] X K KX := by
  obtain ⟨hS, hW, hR, hT, hL, hE, hKk, hH, hC, hG⟩ := id H
  have hrw : 0 ≤ a0.toInt → a0.toInt < 64 → (xI X 43 a0.toNatClampNeg).toInt = (xI X 7 a0.toNatClampNeg).toInt ∧ -1 ≤ (xI X 7 a0.toNatClampNeg).toInt ∧ (xI X 7 a0.toNatClampNeg).toInt ≤ 60 := fun q1 q2 => by
    have := clp q1
    obtain ⟨e1, e2, e3⟩ := hR.1 a0.toNatClampNeg (by omega)
    exact ⟨congrArg Int32.toInt e1, e2, e3⟩
  have hrx := hrw
  have hcl := clp (x := a0)
  have hcl1 := clp (x := a1)
  simp only [Int32.lt_iff_toInt_lt, Int32.le_iff_toInt_le, ← Int32.toInt_inj, u2_ap, reduceIte, Nat.reduceEqDiff, xI, xJ, xR, xS, xN, li_0, li_1, li_2, li_3, li_4, li_5, li_6, li_7, li_8, li_9, li_10, li_11, li_12, li_13, li_14, li_15, li_16, li_20, li_34, li_40, li_50, li_59, li_60, li_64, li_99, li_100, li_200, li_500, li_1439, li_1440, li_3840, li_4000, li_10000, li_60000, li_1000000, li_m1, li_min] at hrx
  repeat' (first
    | with_reducible refine i_L_pulses ?_
    | with_reducible refine e_L_pulses_17 ?_
    | with_reducible refine e_L_pulses_15 ?_
    | with_reducible refine i_X11_pulses ?_
    | with_reducible refine i_X12_pulses ?_
    | with_reducible refine e_X12_pulses_23 ?_
    | with_reducible refine e_X12_pulses_24 ?_
    | with_reducible refine i_X12_isRow ?_
    | with_reducible refine e_X12_isRow_15 ?_
    | with_reducible refine e_X12_isRow_16 ?_
    | (with_reducible refine s_at ?_ ?_ ?_ ?_ ?_)
    | (with_reducible refine s_told ?_ ?_ ?_ ?_ ?_)
    | (exact (hrw (by omega) (by omega)).2.2)
    | (exact Int.le_trans (Int.le_of_eq (hrw (by omega) (by omega)).1) (hrw (by omega) (by omega)).2.2)
    | (show _ ≤ Int32.toInt _; omega)
    | (show Int32.toInt _ < _; omega)
    | exact fin_read H rfl
    | exact fin_read H (congrArg Int32.toInt64 (hR.2 _ (by omega)).1.symm)
    | with_reducible refine s_isFrom ?_ ?_
    | with_reducible refine s_demand1 ?_
    | with_reducible refine s_demand0 ?_
    | with_reducible refine s_demandSuch1 ?_
    | with_reducible refine s_demandSuch0 ?_
    | with_reducible refine s_demandState1 ?_
    | with_reducible refine s_demandState0 ?_
    | with_reducible refine s_demandPlace ?_ ?_
    | with_reducible refine s_refuse ?_ ?_
    | (with_reducible refine s_hired ?hb ?_ ?_; case hb => assumption)
    | with_reducible refine s_right1 ?_
    | with_reducible refine s_right0 (by decide) ?_
    | with_reducible refine s_thrown ?_
    | with_reducible refine rI_in ?_
    | with_reducible refine rV_in ?_
    | with_reducible refine rL_in ?_
    | with_reducible refine rR_in ?_
    | with_reducible refine ite_t rfl ?_
    | with_reducible refine ite_f (by decide) ?_
    | with_reducible refine gd_in (by decide) ?_
    | with_reducible refine or0_and ?_
    | with_reducible refine or1_and ?_
    | with_reducible refine br_t (by decide) ?_
    | with_reducible refine br_f (by decide) ?_
    | with_reducible refine br_t2 (by decide) ?_
    | with_reducible refine br_f2 (by decide) ?_
    | (with_reducible refine vin_and ?hv ?_; case hv => first | omega | (simp only [Int32.lt_iff_toInt_lt, Int32.le_iff_toInt_le, ← Int32.toInt_inj, u2_ap, reduceIte, Nat.reduceEqDiff, xI, xJ, xR, xS, xN, li_0, li_1, li_2, li_3, li_4, li_5, li_6, li_7, li_8, li_9, li_10, li_11, li_12, li_13, li_14, li_15, li_16, li_20, li_34, li_40, li_50, li_59, li_60, li_64, li_99, li_100, li_200, li_500, li_1439, li_1440, li_3840, li_4000, li_10000, li_60000, li_1000000, li_m1, li_min] at * <;> omega))
    | (with_reducible refine ne_and ?hv ?_; case hv => decide)
    | (refine hK _ _ (SamS.mk rfl rfl) (fun K2 KX2 hK2 => ?_); try dsimp only [xI, xJ, xR, xS, xN])
    | (with_reducible refine hK2 _ _ ?_; try dsimp only [xI, xJ, xR, xS, xN])
    | exact fin_thr H (by assumption) _ (by decide)
    | exact finL_thr H (by assumption) _ (by decide)
    | exact finB_thr H (by assumption) (by decide)
    | ((with_reducible refine br_s (fun c => ?_) (fun c => ?_)) <;> (try simp only [Int32.lt_iff_toInt_lt, Int32.le_iff_toInt_le, ← Int32.toInt_inj, u2_ap, reduceIte, Nat.reduceEqDiff, xI, xJ, xR, xS, xN, li_0, li_1, li_2, li_3, li_4, li_5, li_6, li_7, li_8, li_9, li_10, li_11, li_12, li_13, li_14, li_15, li_16, li_20, li_34, li_40, li_50, li_59, li_60, li_64, li_99, li_100, li_200, li_500, li_1439, li_1440, li_3840, li_4000, li_10000, li_60000, li_1000000, li_m1, li_min] at c) <;> (try (exfalso; omega)))
    | ((with_reducible refine br_s2 (fun c => ?_) (fun c => ?_)) <;> (try simp only [Int32.lt_iff_toInt_lt, Int32.le_iff_toInt_le, ← Int32.toInt_inj, u2_ap, reduceIte, Nat.reduceEqDiff, xI, xJ, xR, xS, xN, li_0, li_1, li_2, li_3, li_4, li_5, li_6, li_7, li_8, li_9, li_10, li_11, li_12, li_13, li_14, li_15, li_16, li_20, li_34, li_40, li_50, li_59, li_60, li_64, li_99, li_100, li_200, li_500, li_1439, li_1440, li_3840, li_4000, li_10000, li_60000, li_1000000, li_m1, li_min] at c) <;> (try (exfalso; omega)))
    | (intro c; (try simp only [Int32.lt_iff_toInt_lt, Int32.le_iff_toInt_le, ← Int32.toInt_inj, u2_ap, reduceIte, Nat.reduceEqDiff, xI, xJ, xR, xS, xN, li_0, li_1, li_2, li_3, li_4, li_5, li_6, li_7, li_8, li_9, li_10, li_11, li_12, li_13, li_14, li_15, li_16, li_20, li_34, li_40, li_50, li_59, li_60, li_64, li_99, li_100, li_200, li_500, li_1439, li_1440, li_3840, li_4000, li_10000, li_60000, li_1000000, li_m1, li_min] at c) <;> (try (exfalso; omega))))
set_option maxHeartbeats 4000000 in
theorem op_tear {a0 a1 : Int32} (H : Rel L xs t n s h l X) (hK : ∀ c X1, SamS X X1 → (∀ K2 KX2, (∀ b X4, FinI L xs t c b X4 → K2 (some (vI b)) X4) → w_X12_tear tb0 [vR (some 42), vI a0, vI a1] X1 K2 KX2) → K (some (vI c)) X1) : w_L_tear tb0 [vR (some 4), vI a0, vI a1, vR (some 91)] X K KX := by
  obtain ⟨hS, hW, hR, hT, hL, hE, hKk, hH, hC, hG⟩ := id H
  have hrw : 0 ≤ a0.toInt → a0.toInt < 64 → (xI X 43 a0.toNatClampNeg).toInt = (xI X 7 a0.toNatClampNeg).toInt ∧ -1 ≤ (xI X 7 a0.toNatClampNeg).toInt ∧ (xI X 7 a0.toNatClampNeg).toInt ≤ 60 := fun q1 q2 => by
    have := clp q1
    obtain ⟨e1, e2, e3⟩ := hR.1 a0.toNatClampNeg (by omega)
    exact ⟨congrArg Int32.toInt e1, e2, e3⟩
  have hrx := hrw
  have hcl := clp (x := a0)
  have hcl1 := clp (x := a1)
  simp only [Int32.lt_iff_toInt_lt, Int32.le_iff_toInt_le, ← Int32.toInt_inj, u2_ap, reduceIte, Nat.reduceEqDiff, xI, xJ, xR, xS, xN, li_0, li_1, li_2, li_3, li_4, li_5, li_6, li_7, li_8, li_9, li_10, li_11, li_12, li_13, li_14, li_15, li_16, li_20, li_34, li_40, li_50, li_59, li_60, li_64, li_99, li_100, li_200, li_500, li_1439, li_1440, li_3840, li_4000, li_10000, li_60000, li_1000000, li_m1, li_min] at hrx
  repeat' (first
    | with_reducible refine x_tear_51 ?_ ?_
    | with_reducible refine i_L_tear ?_
    | with_reducible refine e_L_tear_21 ?_
    | with_reducible refine e_L_tear_19 ?_
    | with_reducible refine e_L_tear_15 ?_
    | with_reducible refine i_X11_tear ?_
    | with_reducible refine e_X11_tear_21 ?_
    | with_reducible refine e_X11_tear_22 ?_
    | with_reducible refine e_X11_tear_51 ?_
    | with_reducible refine e_X11_tear_56 ?_
    | with_reducible refine i_X12_tear ?_
    | with_reducible refine e_X12_tear_37 ?_
    | with_reducible refine e_X12_tear_29 ?_
    | with_reducible refine e_X12_tear_30 ?_
    | with_reducible refine e_X12_tear_39 ?_
    | with_reducible refine e_X12_tear_59 ?_
    | with_reducible refine e_X12_tear_69 ?_
    | with_reducible refine e_X12_tear_68 ?_
    | with_reducible refine i_X12_isRow ?_
    | with_reducible refine e_X12_isRow_15 ?_
    | with_reducible refine e_X12_isRow_16 ?_
    | with_reducible refine i_X8_isMissing ?_
    | with_reducible refine e_X8_isMissing_14 ?_
    | with_reducible refine e_X8_isMissing_15 ?_
    | with_reducible refine s_isFrom ?_ ?_
    | with_reducible refine s_demand1 ?_
    | with_reducible refine s_demand0 ?_
    | with_reducible refine s_demandSuch1 ?_
    | with_reducible refine s_demandSuch0 ?_
    | with_reducible refine s_demandState1 ?_
    | with_reducible refine s_demandState0 ?_
    | with_reducible refine s_demandPlace ?_ ?_
    | with_reducible refine s_refuse ?_ ?_
    | (with_reducible refine s_hired ?hb ?_ ?_; case hb => assumption)
    | with_reducible refine s_right1 ?_
    | with_reducible refine s_right0 (by decide) ?_
    | with_reducible refine s_thrown ?_
    | with_reducible refine rI_in ?_
    | with_reducible refine rV_in ?_
    | with_reducible refine rL_in ?_
    | with_reducible refine rR_in ?_
    | with_reducible refine ite_t rfl ?_
    | with_reducible refine ite_f (by decide) ?_
    | with_reducible refine gd_in (by decide) ?_
    | with_reducible refine or0_and ?_
    | with_reducible refine or1_and ?_
    | with_reducible refine br_t (by decide) ?_
    | with_reducible refine br_f (by decide) ?_
    | with_reducible refine br_t2 (by decide) ?_
    | with_reducible refine br_f2 (by decide) ?_
    | (with_reducible refine vin_and ?hv ?_; case hv => first | omega | (simp only [Int32.lt_iff_toInt_lt, Int32.le_iff_toInt_le, ← Int32.toInt_inj, u2_ap, reduceIte, Nat.reduceEqDiff, xI, xJ, xR, xS, xN, li_0, li_1, li_2, li_3, li_4, li_5, li_6, li_7, li_8, li_9, li_10, li_11, li_12, li_13, li_14, li_15, li_16, li_20, li_34, li_40, li_50, li_59, li_60, li_64, li_99, li_100, li_200, li_500, li_1439, li_1440, li_3840, li_4000, li_10000, li_60000, li_1000000, li_m1, li_min] at * <;> omega))
    | (with_reducible refine ne_and ?hv ?_; case hv => decide)
    | (refine hK _ _ (SamS.mk rfl rfl) (fun K2 KX2 hK2 => ?_); try dsimp only [xI, xJ, xR, xS, xN])
    | (with_reducible refine hK2 _ _ ?_; try dsimp only [xI, xJ, xR, xS, xN])
    | exact fin_thr H (by assumption) _ (by decide)
    | exact finL_thr H (by assumption) _ (by decide)
    | exact finB_thr H (by assumption) (by decide)
    | ((with_reducible refine br_s (fun c => ?_) (fun c => ?_)) <;> (try simp only [Int32.lt_iff_toInt_lt, Int32.le_iff_toInt_le, ← Int32.toInt_inj, u2_ap, reduceIte, Nat.reduceEqDiff, xI, xJ, xR, xS, xN, li_0, li_1, li_2, li_3, li_4, li_5, li_6, li_7, li_8, li_9, li_10, li_11, li_12, li_13, li_14, li_15, li_16, li_20, li_34, li_40, li_50, li_59, li_60, li_64, li_99, li_100, li_200, li_500, li_1439, li_1440, li_3840, li_4000, li_10000, li_60000, li_1000000, li_m1, li_min] at c) <;> (try (exfalso; omega)))
    | ((with_reducible refine br_s2 (fun c => ?_) (fun c => ?_)) <;> (try simp only [Int32.lt_iff_toInt_lt, Int32.le_iff_toInt_le, ← Int32.toInt_inj, u2_ap, reduceIte, Nat.reduceEqDiff, xI, xJ, xR, xS, xN, li_0, li_1, li_2, li_3, li_4, li_5, li_6, li_7, li_8, li_9, li_10, li_11, li_12, li_13, li_14, li_15, li_16, li_20, li_34, li_40, li_50, li_59, li_60, li_64, li_99, li_100, li_200, li_500, li_1439, li_1440, li_3840, li_4000, li_10000, li_60000, li_1000000, li_m1, li_min] at c) <;> (try (exfalso; omega)))
    | (intro c; (try simp only [Int32.lt_iff_toInt_lt, Int32.le_iff_toInt_le, ← Int32.toInt_inj, u2_ap, reduceIte, Nat.reduceEqDiff, xI, xJ, xR, xS, xN, li_0, li_1, li_2, li_3, li_4, li_5, li_6, li_7, li_8, li_9, li_10, li_11, li_12, li_13, li_14, li_15, li_16, li_20, li_34, li_40, li_50, li_59, li_60, li_64, li_99, li_100, li_200, li_500, li_1439, li_1440, li_3840, li_4000, li_10000, li_60000, li_1000000, li_m1, li_min] at c) <;> (try (exfalso; omega))))
  all_goals first
    | exact fin_of (n := n) (s := s) (h := h) (l := l) ⟨rlS_n (X := X) hS rfl rfl rfl rfl rfl (Nat.le_refl _), hW, rlR_len (X := X) hR rfl rfl rfl rfl (Int32.toInt_inj.mp (by simp only [Int32.lt_iff_toInt_lt, Int32.le_iff_toInt_le, ← Int32.toInt_inj, u2_ap, reduceIte, Nat.reduceEqDiff, xI, xJ, xR, xS, xN, li_0, li_1, li_2, li_3, li_4, li_5, li_6, li_7, li_8, li_9, li_10, li_11, li_12, li_13, li_14, li_15, li_16, li_20, li_34, li_40, li_50, li_59, li_60, li_64, li_99, li_100, li_200, li_500, li_1439, li_1440, li_3840, li_4000, li_10000, li_60000, li_1000000, li_m1, li_min] at * <;> omega)) ⟨by simp only [Int32.lt_iff_toInt_lt, Int32.le_iff_toInt_le, ← Int32.toInt_inj, u2_ap, reduceIte, Nat.reduceEqDiff, xI, xJ, xR, xS, xN, li_0, li_1, li_2, li_3, li_4, li_5, li_6, li_7, li_8, li_9, li_10, li_11, li_12, li_13, li_14, li_15, li_16, li_20, li_34, li_40, li_50, li_59, li_60, li_64, li_99, li_100, li_200, li_500, li_1439, li_1440, li_3840, li_4000, li_10000, li_60000, li_1000000, li_m1, li_min] at * <;> omega, by simp only [Int32.lt_iff_toInt_lt, Int32.le_iff_toInt_le, ← Int32.toInt_inj, u2_ap, reduceIte, Nat.reduceEqDiff, xI, xJ, xR, xS, xN, li_0, li_1, li_2, li_3, li_4, li_5, li_6, li_7, li_8, li_9, li_10, li_11, li_12, li_13, li_14, li_15, li_16, li_20, li_34, li_40, li_50, li_59, li_60, li_64, li_99, li_100, li_200, li_500, li_1439, li_1440, li_3840, li_4000, li_10000, li_60000, li_1000000, li_m1, li_min] at * <;> omega⟩, rlT_fr (X := X) (by repeat (first | exact fun _ _ => rfl | refine u2_hi (by decide) ?_ | refine u1_hi (by decide) ?_)) rfl rfl rfl rfl (Nat.le_refl _) rfl rfl hT, hL, hE, hKk, hH, rlC_fr (X := X) (by repeat (first | exact fun _ _ => rfl | refine u2_hi (by decide) ?_ | refine u1_hi (by decide) ?_)) rfl rfl rfl rfl rfl rfl rfl rfl (Nat.le_refl _) rfl hC, hG⟩ rfl rfl
    | exact fin_of (n := n) (s := s) (h := h) (l := l) ⟨rlS_n (X := X) hS rfl rfl rfl rfl rfl (Nat.le_refl _), hW, rlR_len (X := X) hR rfl rfl rfl rfl (Int32.toInt_inj.mp (by simp only [Int32.lt_iff_toInt_lt, Int32.le_iff_toInt_le, ← Int32.toInt_inj, u2_ap, reduceIte, Nat.reduceEqDiff, xI, xJ, xR, xS, xN, li_0, li_1, li_2, li_3, li_4, li_5, li_6, li_7, li_8, li_9, li_10, li_11, li_12, li_13, li_14, li_15, li_16, li_20, li_34, li_40, li_50, li_59, li_60, li_64, li_99, li_100, li_200, li_500, li_1439, li_1440, li_3840, li_4000, li_10000, li_60000, li_1000000, li_m1, li_min] at * <;> omega)) ⟨by simp only [Int32.lt_iff_toInt_lt, Int32.le_iff_toInt_le, ← Int32.toInt_inj, u2_ap, reduceIte, Nat.reduceEqDiff, xI, xJ, xR, xS, xN, li_0, li_1, li_2, li_3, li_4, li_5, li_6, li_7, li_8, li_9, li_10, li_11, li_12, li_13, li_14, li_15, li_16, li_20, li_34, li_40, li_50, li_59, li_60, li_64, li_99, li_100, li_200, li_500, li_1439, li_1440, li_3840, li_4000, li_10000, li_60000, li_1000000, li_m1, li_min] at * <;> omega, by simp only [Int32.lt_iff_toInt_lt, Int32.le_iff_toInt_le, ← Int32.toInt_inj, u2_ap, reduceIte, Nat.reduceEqDiff, xI, xJ, xR, xS, xN, li_0, li_1, li_2, li_3, li_4, li_5, li_6, li_7, li_8, li_9, li_10, li_11, li_12, li_13, li_14, li_15, li_16, li_20, li_34, li_40, li_50, li_59, li_60, li_64, li_99, li_100, li_200, li_500, li_1439, li_1440, li_3840, li_4000, li_10000, li_60000, li_1000000, li_m1, li_min] at * <;> omega⟩, rlT_fr (X := X) (by repeat (first | exact fun _ _ => rfl | refine u2_hi (by decide) ?_ | refine u1_hi (by decide) ?_)) rfl rfl rfl rfl (Nat.le_refl _) rfl rfl hT, hL, hE, hKk, hH, rlC_fr (X := X) (by repeat (first | exact fun _ _ => rfl | refine u2_hi (by decide) ?_ | refine u1_hi (by decide) ?_)) rfl rfl rfl rfl rfl rfl rfl rfl (Nat.le_refl _) rfl hC, hG⟩ rfl (congrArg Int32.toInt64 (hR.1 _ (by omega)).1.symm)
set_option maxHeartbeats 4000000 in
theorem op_pulse {a0 a1 a2 : Int32} (H : Rel L xs t n s h l X) (hK : ∀ c X1, SamS X X1 → (∀ K2 KX2, (∀ b X4, FinI L xs t c b X4 → K2 (some (vI b)) X4) → w_X12_pulse tb0 [vR (some 42), vI a0, vI a1, vI a2] X1 K2 KX2) → K (some (vI c)) X1) : w_L_pulse tb0 [vR (some 4), vI a0, vI a1, vI a2, vR (some 91)] X K KX := by
  obtain ⟨hS, hW, hR, hT, hL, hE, hKk, hH, hC, hG⟩ := id H
  have hrw : 0 ≤ a0.toInt → a0.toInt < 64 → (xI X 43 a0.toNatClampNeg).toInt = (xI X 7 a0.toNatClampNeg).toInt ∧ -1 ≤ (xI X 7 a0.toNatClampNeg).toInt ∧ (xI X 7 a0.toNatClampNeg).toInt ≤ 60 := fun q1 q2 => by
    have := clp q1
    obtain ⟨e1, e2, e3⟩ := hR.1 a0.toNatClampNeg (by omega)
    exact ⟨congrArg Int32.toInt e1, e2, e3⟩
  have hrx := hrw
  have hcl := clp (x := a0)
  have hcl1 := clp (x := a1)
  simp only [Int32.lt_iff_toInt_lt, Int32.le_iff_toInt_le, ← Int32.toInt_inj, u2_ap, reduceIte, Nat.reduceEqDiff, xI, xJ, xR, xS, xN, li_0, li_1, li_2, li_3, li_4, li_5, li_6, li_7, li_8, li_9, li_10, li_11, li_12, li_13, li_14, li_15, li_16, li_20, li_34, li_40, li_50, li_59, li_60, li_64, li_99, li_100, li_200, li_500, li_1439, li_1440, li_3840, li_4000, li_10000, li_60000, li_1000000, li_m1, li_min] at hrx
  have hix : 0 ≤ a0.toInt → a0.toInt < 64 → 0 ≤ a1.toInt → a1.toInt < 60 → (60 * a0 + a1).toInt = 60 * a0.toInt + a1.toInt ∧ (a0 * 60 + a1).toInt = 60 * a0.toInt + a1.toInt := fun q1 q2 q3 q4 => by
    obtain ⟨e1, e2, e3⟩ := ix60 q1 q2 q3 q4
    exact ⟨e1, by rw [e2]; exact e1⟩
  repeat' (first
    | with_reducible refine i_L_pulse ?_
    | with_reducible refine e_L_pulse_27 ?_
    | with_reducible refine e_L_pulse_25 ?_
    | with_reducible refine e_L_pulse_21 ?_
    | with_reducible refine e_L_pulse_17 ?_
    | with_reducible refine i_X11_pulse ?_
    | with_reducible refine e_X11_pulse_32 ?_
    | with_reducible refine e_X11_pulse_33 ?_
    | with_reducible refine i_X12_pulse ?_
    | with_reducible refine e_X12_pulse_21 ?_
    | with_reducible refine e_X12_pulse_22 ?_
    | with_reducible refine e_X12_pulse_88 ?_
    | with_reducible refine e_X12_pulse_53 ?_
    | with_reducible refine e_X12_pulse_54 ?_
    | with_reducible refine e_X12_pulse_80 ?_
    | with_reducible refine e_X12_pulse_81 ?_
    | with_reducible refine e_X12_pulse_90 ?_
    | with_reducible refine i_X12_isRow ?_
    | with_reducible refine e_X12_isRow_15 ?_
    | with_reducible refine e_X12_isRow_16 ?_
    | with_reducible refine i_X8_isMissing ?_
    | with_reducible refine e_X8_isMissing_14 ?_
    | with_reducible refine e_X8_isMissing_15 ?_
    | with_reducible refine i_X8_put ?_
    | (with_reducible refine s_at ?_ ?_ ?_ ?_ ?_)
    | (with_reducible refine s_told ?_ ?_ ?_ ?_ ?_)
    | (exact (hrw (by omega) (by omega)).2.2)
    | (exact Int.le_trans (Int.le_of_eq (hrw (by omega) (by omega)).1) (hrw (by omega) (by omega)).2.2)
    | (show _ ≤ Int32.toInt _; omega)
    | (show Int32.toInt _ < _; omega)
    | with_reducible refine s_isFrom ?_ ?_
    | with_reducible refine s_demand1 ?_
    | with_reducible refine s_demand0 ?_
    | with_reducible refine s_demandSuch1 ?_
    | with_reducible refine s_demandSuch0 ?_
    | with_reducible refine s_demandState1 ?_
    | with_reducible refine s_demandState0 ?_
    | with_reducible refine s_demandPlace ?_ ?_
    | with_reducible refine s_refuse ?_ ?_
    | (with_reducible refine s_hired ?hb ?_ ?_; case hb => assumption)
    | with_reducible refine s_right1 ?_
    | with_reducible refine s_right0 (by decide) ?_
    | with_reducible refine s_thrown ?_
    | with_reducible refine rI_in ?_
    | with_reducible refine rV_in ?_
    | with_reducible refine rL_in ?_
    | with_reducible refine rR_in ?_
    | with_reducible refine ite_t rfl ?_
    | with_reducible refine ite_f (by decide) ?_
    | with_reducible refine gd_in (by decide) ?_
    | with_reducible refine or0_and ?_
    | with_reducible refine or1_and ?_
    | with_reducible refine br_t (by decide) ?_
    | with_reducible refine br_f (by decide) ?_
    | with_reducible refine br_t2 (by decide) ?_
    | with_reducible refine br_f2 (by decide) ?_
    | (with_reducible refine vin_and ?hv ?_; case hv => first | omega | (simp only [Int32.lt_iff_toInt_lt, Int32.le_iff_toInt_le, ← Int32.toInt_inj, u2_ap, reduceIte, Nat.reduceEqDiff, xI, xJ, xR, xS, xN, li_0, li_1, li_2, li_3, li_4, li_5, li_6, li_7, li_8, li_9, li_10, li_11, li_12, li_13, li_14, li_15, li_16, li_20, li_34, li_40, li_50, li_59, li_60, li_64, li_99, li_100, li_200, li_500, li_1439, li_1440, li_3840, li_4000, li_10000, li_60000, li_1000000, li_m1, li_min] at * <;> omega))
    | (with_reducible refine ne_and ?hv ?_; case hv => decide)
    | (refine hK _ _ (SamS.mk rfl rfl) (fun K2 KX2 hK2 => ?_); try dsimp only [xI, xJ, xR, xS, xN])
    | (with_reducible refine hK2 _ _ ?_; try dsimp only [xI, xJ, xR, xS, xN])
    | exact fin_thr H (by assumption) _ (by decide)
    | exact finL_thr H (by assumption) _ (by decide)
    | exact finB_thr H (by assumption) (by decide)
    | ((with_reducible refine br_s (fun c => ?_) (fun c => ?_)) <;> (try simp only [Int32.lt_iff_toInt_lt, Int32.le_iff_toInt_le, ← Int32.toInt_inj, u2_ap, reduceIte, Nat.reduceEqDiff, xI, xJ, xR, xS, xN, li_0, li_1, li_2, li_3, li_4, li_5, li_6, li_7, li_8, li_9, li_10, li_11, li_12, li_13, li_14, li_15, li_16, li_20, li_34, li_40, li_50, li_59, li_60, li_64, li_99, li_100, li_200, li_500, li_1439, li_1440, li_3840, li_4000, li_10000, li_60000, li_1000000, li_m1, li_min] at c) <;> (try (exfalso; omega)))
    | ((with_reducible refine br_s2 (fun c => ?_) (fun c => ?_)) <;> (try simp only [Int32.lt_iff_toInt_lt, Int32.le_iff_toInt_le, ← Int32.toInt_inj, u2_ap, reduceIte, Nat.reduceEqDiff, xI, xJ, xR, xS, xN, li_0, li_1, li_2, li_3, li_4, li_5, li_6, li_7, li_8, li_9, li_10, li_11, li_12, li_13, li_14, li_15, li_16, li_20, li_34, li_40, li_50, li_59, li_60, li_64, li_99, li_100, li_200, li_500, li_1439, li_1440, li_3840, li_4000, li_10000, li_60000, li_1000000, li_m1, li_min] at c) <;> (try (exfalso; omega)))
    | (intro c; (try simp only [Int32.lt_iff_toInt_lt, Int32.le_iff_toInt_le, ← Int32.toInt_inj, u2_ap, reduceIte, Nat.reduceEqDiff, xI, xJ, xR, xS, xN, li_0, li_1, li_2, li_3, li_4, li_5, li_6, li_7, li_8, li_9, li_10, li_11, li_12, li_13, li_14, li_15, li_16, li_20, li_34, li_40, li_50, li_59, li_60, li_64, li_99, li_100, li_200, li_500, li_1439, li_1440, li_3840, li_4000, li_10000, li_60000, li_1000000, li_m1, li_min] at c) <;> (try (exfalso; omega))))
  obtain ⟨e1, e2, e3⟩ := ix60 (a := a0) (b := a1) (by omega) (by omega) (by omega) (by omega)
  have hn := nar_s (v := a2) (by omega) (by omega)
  have hp6 : (u2 (xI X) 6 (a0 * 60 + a1).toNatClampNeg (vp_nar .short (Int16.toInt32 (Int32.toInt16 a2)))) 6 = stf (xI X 6) (60 * a0 + a1).toNatClampNeg a2 := by
    rw [hn, e2]
    funext j
    exact u2_at _ _ _ _ _
  refine fin_of (n := n) (s := s) (h := h) (l := l) ⟨rlS_n (X := X) hS rfl rfl rfl rfl rfl (Nat.le_refl _), hW, rlR_pul (X := X) (r := (60 * a0 + a1).toNatClampNeg) (v := a2) (v' := a2) hR hp6 rfl rfl rfl rfl ⟨by omega, by omega⟩, rlT_fr (X := X) (by repeat (first | exact fun _ _ => rfl | refine u2_hi (by decide) ?_ | refine u1_hi (by decide) ?_)) rfl rfl rfl rfl (Nat.le_refl _) rfl rfl hT, hL, hE, hKk, hH, rlC_fr (X := X) (by repeat (first | exact fun _ _ => rfl | refine u2_hi (by decide) ?_ | refine u1_hi (by decide) ?_)) rfl rfl rfl rfl rfl rfl rfl rfl (Nat.le_refl _) rfl hC, hG⟩ rfl ?_
  have hj := (hR.2 (60 * a0 + a1).toNatClampNeg (by omega)).1
  show Int32.toInt64 (xI X 6 (60 * a0.toNatClampNeg + a1.toNatClampNeg)) = Int32.toInt64 (xI X 44 (60 * a0 + a1).toNatClampNeg)
  rw [hj, e3]
end Ops
