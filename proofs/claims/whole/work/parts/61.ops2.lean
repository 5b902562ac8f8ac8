/-! calls of seals, slots -/
def FinB (L : Nat) (xs : Nat → Int32) (t : Nat) (c b : Int32) (X : AX) : Prop := FinI L xs t c b X ∧ (b = 0 ∨ b = 1)
section Ops
variable {L : Nat} {xs : Nat → Int32} {t n s h l : Nat} {X : AX} {K : Option AV → AX → Prop} {KX : String → AX → Prop}
theorem finB_thr (H : Rel L xs t n s h l X) {n1 : Nat} (hn : xN X ≤ n1) {c : Int32} (hc : ¬ c = 0) : FinB L xs t c 0 (xS X, u2 (u2 (xI X) 42 0 0) 42 0 c, xJ X, xR X, n1) := ⟨fin_thr H hn 0 hc, Or.inl rfl⟩
theorem rlE_put {X X' : AX} {r : Nat} {v v' w w' : Int32} (h : rlE s X) (h11 : xI X' 11 2 = xI X 11 2) (h42 : xI X' 42 6 = xI X 42 6) (h12 : xI X' 12 = stf (xI X 12) r v) (h49 : xI X' 49 = stf (xI X 49) r v') (h13 : xI X' 13 = stf (xI X 13) r w) (h50 : xI X' 50 = stf (xI X 50) r w') (e : v' = v) (e2 : w' = w) (hv : bl v) : rlE s X' := by
  subst e e2
  obtain ⟨a, b, c, d⟩ := h
  refine ⟨h11.trans a, h42.trans b, c, fun j hj => ?_⟩
  rw [h12, h49, h13, h50]
  by_cases e : j = r
  · subst e; rw [stf_at, stf_at, stf_at, stf_at]; exact ⟨rfl, hv, rfl⟩
  · rw [stf_ne _ _ e, stf_ne _ _ e, stf_ne _ _ e, stf_ne _ _ e]; exact d j hj
theorem stf_self {α : Type} (g : Nat → α) (j : Nat) : g = stf g j (g j) := by
  funext i; unfold stf
  by_cases e : i = j
  · rw [if_pos e, e]
  · rw [if_neg e]
set_option maxHeartbeats 4000000 in
theorem op_since {a0 : Int32} (H : Rel L xs t n s h l X) (hK : ∀ c X1, SamS X X1 → (∀ K2 KX2, (∀ b X4, FinI L xs t c b X4 → K2 (some (vI b)) X4) → w_X12_since tb0 [vR (some 42), vI a0] X1 K2 KX2) → K (some (vI c)) X1) : w_L_since tb0 [vR (some 4), vI a0, vR (some 91)] X K KX := by
  obtain ⟨hS, hW, hR, hT, hL, hE, hKk, hH, hC, hG⟩ := id H
  have hs1 : (xI X 11 2).toInt = s := by rw [hE.1, nI_toInt (by have := hE.2.2.1; omega)]
  have hs2 : (xI X 42 6).toInt = s := by rw [hE.2.1, nI_toInt (by have := hE.2.2.1; omega)]
  have hs3 := hE.2.2.1
  have hsw : 0 ≤ a0.toInt → a0.toInt < 40 → (xI X 49 a0.toNatClampNeg).toInt = (xI X 12 a0.toNatClampNeg).toInt ∧ 0 ≤ (xI X 12 a0.toNatClampNeg).toInt ∧ (xI X 12 a0.toNatClampNeg).toInt ≤ 1 := fun q1 q2 => by
    have := clp q1
    obtain ⟨e1, e2, -⟩ := hE.2.2.2 a0.toNatClampNeg (by omega)
    have := b_toInt e2
    exact ⟨congrArg Int32.toInt e1, by omega, by omega⟩
  have hcl := clp (x := a0)
  simp only [Int32.lt_iff_toInt_lt, Int32.le_iff_toInt_le, ← Int32.toInt_inj, u2_ap, reduceIte, Nat.reduceEqDiff, xI, xJ, xR, xS, xN, li_0, li_1, li_2, li_3, li_4, li_5, li_6, li_7, li_8, li_9, li_10, li_11, li_12, li_13, li_14, li_15, li_16, li_20, li_34, li_40, li_50, li_59, li_60, li_64, li_99, li_100, li_200, li_500, li_1439, li_1440, li_3840, li_4000, li_10000, li_60000, li_1000000, li_m1, li_min] at hs1 hs2 hsw
  repeat' (first
    | with_reducible refine i_L_since ?_
    | with_reducible refine e_L_since_15 ?_
    | with_reducible refine e_L_since_13 ?_
    | with_reducible refine i_X11_since ?_
    | with_reducible refine e_X11_since_35 ?_
    | with_reducible refine e_X11_since_36 ?_
    | with_reducible refine i_X12_since ?_
    | with_reducible refine e_X12_since_15 ?_
    | with_reducible refine e_X12_since_33 ?_
    | with_reducible refine e_X12_since_34 ?_
    | with_reducible refine i_X12_isSeal ?_
    | with_reducible refine e_X12_isSeal_17 ?_
    | with_reducible refine e_X12_isSeal_18 ?_
    | exact fin_read H rfl
    | exact fin_read H (congrArg Int32.toInt64 (hE.2.2.2 _ (by omega)).2.2.symm)
    | with_reducible refine s_isFrom ?_ ?_
    | with_reducible refine s_demand1 ?_
    | with_reducible refine s_demand0 ?_
    | with_reducible refine s_demandSuch1 ?_
    | with_reducible refine s_demandSuch0 ?_
    | with_reducible refine s_demandState1 ?_
    | with_reducible refine s_demandState0 ?_
    | with_reducible refine s_demandPlace ?_ ?_
    | with_reducible refine s_refuse ?_ ?_
    | (with_reducible refine s_hired ?hb ?_ ?_; case hb => assumption)
    | with_reducible refine s_right1 ?_
    | with_reducible refine s_right0 (by decide) ?_
    | with_reducible refine s_thrown ?_
    | with_reducible refine rI_in ?_
    | with_reducible refine rV_in ?_
    | with_reducible refine rL_in ?_
    | with_reducible refine rR_in ?_
    | with_reducible refine ite_t rfl ?_
    | with_reducible refine ite_f (by decide) ?_
    | with_reducible refine gd_in (by decide) ?_
    | with_reducible refine or0_and ?_
    | with_reducible refine or1_and ?_
    | with_reducible refine br_t (by decide) ?_
    | with_reducible refine br_f (by decide) ?_
    | with_reducible refine br_t2 (by decide) ?_
    | with_reducible refine br_f2 (by decide) ?_
    | (with_reducible refine vin_and ?hv ?_; case hv => first | omega | (simp only [Int32.lt_iff_toInt_lt, Int32.le_iff_toInt_le, ← Int32.toInt_inj, u2_ap, reduceIte, Nat.reduceEqDiff, xI, xJ, xR, xS, xN, li_0, li_1, li_2, li_3, li_4, li_5, li_6, li_7, li_8, li_9, li_10, li_11, li_12, li_13, li_14, li_15, li_16, li_20, li_34, li_40, li_50, li_59, li_60, li_64, li_99, li_100, li_200, li_500, li_1439, li_1440, li_3840, li_4000, li_10000, li_60000, li_1000000, li_m1, li_min] at * <;> omega))
    | (with_reducible refine ne_and ?hv ?_; case hv => decide)
    | (refine hK _ _ (SamS.mk rfl rfl) (fun K2 KX2 hK2 => ?_); try dsimp only [xI, xJ, xR, xS, xN])
    | (with_reducible refine hK2 _ _ ?_; try dsimp only [xI, xJ, xR, xS, xN])
    | exact fin_thr H (by assumption) _ (by decide)
    | exact finL_thr H (by assumption) _ (by decide)
    | exact finB_thr H (by assumption) (by decide)
    | ((with_reducible refine br_s (fun c => ?_) (fun c => ?_)) <;> (try simp only [Int32.lt_iff_toInt_lt, Int32.le_iff_toInt_le, ← Int32.toInt_inj, u2_ap, reduceIte, Nat.reduceEqDiff, xI, xJ, xR, xS, xN, li_0, li_1, li_2, li_3, li_4, li_5, li_6, li_7, li_8, li_9, li_10, li_11, li_12, li_13, li_14, li_15, li_16, li_20, li_34, li_40, li_50, li_59, li_60, li_64, li_99, li_100, li_200, li_500, li_1439, li_1440, li_3840, li_4000, li_10000, li_60000, li_1000000, li_m1, li_min] at c) <;> (try (exfalso; omega)))
    | ((with_reducible refine br_s2 (fun c => ?_) (fun c => ?_)) <;> (try simp only [Int32.lt_iff_toInt_lt, Int32.le_iff_toInt_le, ← Int32.toInt_inj, u2_ap, reduceIte, Nat.reduceEqDiff, xI, xJ, xR, xS, xN, li_0, li_1, li_2, li_3, li_4, li_5, li_6, li_7, li_8, li_9, li_10, li_11, li_12, li_13, li_14, li_15, li_16, li_20, li_34, li_40, li_50, li_59, li_60, li_64, li_99, li_100, li_200, li_500, li_1439, li_1440, li_3840, li_4000, li_10000, li_60000, li_1000000, li_m1, li_min] at c) <;> (try (exfalso; omega)))
    | (intro c; (try simp only [Int32.lt_iff_toInt_lt, Int32.le_iff_toInt_le, ← Int32.toInt_inj, u2_ap, reduceIte, Nat.reduceEqDiff, xI, xJ, xR, xS, xN, li_0, li_1, li_2, li_3, li_4, li_5, li_6, li_7, li_8, li_9, li_10, li_11, li_12, li_13, li_14, li_15, li_16, li_20, li_34, li_40, li_50, li_59, li_60, li_64, li_99, li_100, li_200, li_500, li_1439, li_1440, li_3840, li_4000, li_10000, li_60000, li_1000000, li_m1, li_min] at c) <;> (try (exfalso; omega))))
set_option maxHeartbeats 4000000 in
theorem op_sets {a0 : Int32} (H : Rel L xs t n s h l X) (hK : ∀ c X1, SamS X X1 → (∀ K2 KX2, (∀ b X4, FinB L xs t c b X4 → K2 (some (vI b)) X4) → w_X12_sets tb0 [vR (some 42), vI a0] X1 K2 KX2) → K (some (vI c)) X1) : w_L_sets tb0 [vR (some 4), vI a0, vR (some 91)] X K KX := by
  obtain ⟨hS, hW, hR, hT, hL, hE, hKk, hH, hC, hG⟩ := id H
  have hs1 : (xI X 11 2).toInt = s := by rw [hE.1, nI_toInt (by have := hE.2.2.1; omega)]
  have hs2 : (xI X 42 6).toInt = s := by rw [hE.2.1, nI_toInt (by have := hE.2.2.1; omega)]
  have hs3 := hE.2.2.1
  have hsw : 0 ≤ a0.toInt → a0.toInt < 40 → (xI X 49 a0.toNatClampNeg).toInt = (xI X 12 a0.toNatClampNeg).toInt ∧ 0 ≤ (xI X 12 a0.toNatClampNeg).toInt ∧ (xI X 12 a0.toNatClampNeg).toInt ≤ 1 := fun q1 q2 => by
    have := clp q1
    obtain ⟨e1, e2, -⟩ := hE.2.2.2 a0.toNatClampNeg (by omega)
    have := b_toInt e2
    exact ⟨congrArg Int32.toInt e1, by omega, by omega⟩
  have hcl := clp (x := a0)
  simp only [Int32.lt_iff_toInt_lt, Int32.le_iff_toInt_le, ← Int32.toInt_inj, u2_ap, reduceIte, Nat.reduceEqDiff, xI, xJ, xR, xS, xN, li_0, li_1, li_2, li_3, li_4, li_5, li_6, li_7, li_8, li_9, li_10, li_11, li_12, li_13, li_14, li_15, li_16, li_20, li_34, li_40, li_50, li_59, li_60, li_64, li_99, li_100, li_200, li_500, li_1439, li_1440, li_3840, li_4000, li_10000, li_60000, li_1000000, li_m1, li_min] at hs1 hs2 hsw
  repeat' (first
    | with_reducible refine i_L_sets ?_
    | with_reducible refine e_L_sets_14 ?_
    | with_reducible refine e_L_sets_15 ?_
    | with_reducible refine e_L_sets_20 ?_
    | with_reducible refine e_L_sets_22 ?_
    | with_reducible refine i_X11_sets ?_
    | with_reducible refine e_X11_sets_25 ?_
    | with_reducible refine i_X12_sets ?_
    | with_reducible refine e_X12_sets_22 ?_
    | with_reducible refine e_X12_sets_24 ?_
    | with_reducible refine i_X12_isSeal ?_
    | with_reducible refine e_X12_isSeal_17 ?_
    | with_reducible refine e_X12_isSeal_18 ?_
    | with_reducible refine i_X9_makeWhole ?_
    | exact ⟨fin_read H rfl, Or.inl rfl⟩
    | exact ⟨fin_read H rfl, Or.inr rfl⟩
    | with_reducible refine s_isFrom ?_ ?_
    | with_reducible refine s_demand1 ?_
    | with_reducible refine s_demand0 ?_
    | with_reducible refine s_demandSuch1 ?_
    | with_reducible refine s_demandSuch0 ?_
    | with_reducible refine s_demandState1 ?_
    | with_reducible refine s_demandState0 ?_
    | with_reducible refine s_demandPlace ?_ ?_
    | with_reducible refine s_refuse ?_ ?_
    | (with_reducible refine s_hired ?hb ?_ ?_; case hb => assumption)
    | with_reducible refine s_right1 ?_
    | with_reducible refine s_right0 (by decide) ?_
    | with_reducible refine s_thrown ?_
    | with_reducible refine rI_in ?_
    | with_reducible refine rV_in ?_
    | with_reducible refine rL_in ?_
    | with_reducible refine rR_in ?_
    | with_reducible refine ite_t rfl ?_
    | with_reducible refine ite_f (by decide) ?_
    | with_reducible refine gd_in (by decide) ?_
    | with_reducible refine or0_and ?_
    | with_reducible refine or1_and ?_
    | with_reducible refine br_t (by decide) ?_
    | with_reducible refine br_f (by decide) ?_
    | with_reducible refine br_t2 (by decide) ?_
    | with_reducible refine br_f2 (by decide) ?_
    | (with_reducible refine vin_and ?hv ?_; case hv => first | omega | (simp only [Int32.lt_iff_toInt_lt, Int32.le_iff_toInt_le, ← Int32.toInt_inj, u2_ap, reduceIte, Nat.reduceEqDiff, xI, xJ, xR, xS, xN, li_0, li_1, li_2, li_3, li_4, li_5, li_6, li_7, li_8, li_9, li_10, li_11, li_12, li_13, li_14, li_15, li_16, li_20, li_34, li_40, li_50, li_59, li_60, li_64, li_99, li_100, li_200, li_500, li_1439, li_1440, li_3840, li_4000, li_10000, li_60000, li_1000000, li_m1, li_min] at * <;> omega))
    | (with_reducible refine ne_and ?hv ?_; case hv => decide)
    | (refine hK _ _ (SamS.mk rfl rfl) (fun K2 KX2 hK2 => ?_); try dsimp only [xI, xJ, xR, xS, xN])
    | (with_reducible refine hK2 _ _ ?_; try dsimp only [xI, xJ, xR, xS, xN])
    | exact fin_thr H (by assumption) _ (by decide)
    | exact finL_thr H (by assumption) _ (by decide)
    | exact finB_thr H (by assumption) (by decide)
    | ((with_reducible refine br_s (fun c => ?_) (fun c => ?_)) <;> (try simp only [Int32.lt_iff_toInt_lt, Int32.le_iff_toInt_le, ← Int32.toInt_inj, u2_ap, reduceIte, Nat.reduceEqDiff, xI, xJ, xR, xS, xN, li_0, li_1, li_2, li_3, li_4, li_5, li_6, li_7, li_8, li_9, li_10, li_11, li_12, li_13, li_14, li_15, li_16, li_20, li_34, li_40, li_50, li_59, li_60, li_64, li_99, li_100, li_200, li_500, li_1439, li_1440, li_3840, li_4000, li_10000, li_60000, li_1000000, li_m1, li_min] at c) <;> (try (exfalso; omega)))
    | ((with_reducible refine br_s2 (fun c => ?_) (fun c => ?_)) <;> (try simp only [Int32.lt_iff_toInt_lt, Int32.le_iff_toInt_le, ← Int32.toInt_inj, u2_ap, reduceIte, Nat.reduceEqDiff, xI, xJ, xR, xS, xN, li_0, li_1, li_2, li_3, li_4, li_5, li_6, li_7, li_8, li_9, li_10, li_11, li_12, li_13, li_14, li_15, li_16, li_20, li_34, li_40, li_50, li_59, li_60, li_64, li_99, li_100, li_200, li_500, li_1439, li_1440, li_3840, li_4000, li_10000, li_60000, li_1000000, li_m1, li_min] at c) <;> (try (exfalso; omega)))
    | (intro c; (try simp only [Int32.lt_iff_toInt_lt, Int32.le_iff_toInt_le, ← Int32.toInt_inj, u2_ap, reduceIte, Nat.reduceEqDiff, xI, xJ, xR, xS, xN, li_0, li_1, li_2, li_3, li_4, li_5, li_6, li_7, li_8, li_9, li_10, li_11, li_12, li_13, li_14, li_15, li_16, li_20, li_34, li_40, li_50, li_59, li_60, li_64, li_99, li_100, li_200, li_500, li_1439, li_1440, li_3840, li_4000, li_10000, li_60000, li_1000000, li_m1, li_min] at c) <;> (try (exfalso; omega))))
  exact ⟨fin_of (n := n) (s := s) (h := h) (l := l) ⟨rlS_n (X := X) hS rfl rfl rfl rfl rfl (Nat.le_refl _), hW, hR, rlT_fr (X := X) (by repeat (first | exact fun _ _ => rfl | refine u2_hi (by decide) ?_ | refine u1_hi (by decide) ?_)) rfl rfl rfl rfl (Nat.le_refl _) rfl rfl hT, hL, rlE_put (X := X) (r := a0.toNatClampNeg) hE rfl rfl rfl rfl rfl rfl rfl (hH.2.1.trans hH.1.symm) (Or.inr rfl), hKk, hH, rlC_fr (X := X) (by repeat (first | exact fun _ _ => rfl | refine u2_hi (by decide) ?_ | refine u1_hi (by decide) ?_)) rfl rfl rfl rfl rfl rfl rfl rfl (Nat.le_refl _) rfl hC, hG⟩ rfl rfl, Or.inr rfl⟩
set_option maxHeartbeats 4000000 in
theorem op_breaks {a0 : Int32} (H : Rel L xs t n s h l X) (hK : ∀ c X1, SamS X X1 → (∀ K2 KX2, (∀ b X4, FinB L xs t c b X4 → K2 (some (vI b)) X4) → w_X12_breaks tb0 [vR (some 42), vI a0] X1 K2 KX2) → K (some (vI c)) X1) : w_L_breaks tb0 [vR (some 4), vI a0, vR (some 91)] X K KX := by
  obtain ⟨hS, hW, hR, hT, hL, hE, hKk, hH, hC, hG⟩ := id H
  have hs1 : (xI X 11 2).toInt = s := by rw [hE.1, nI_toInt (by have := hE.2.2.1; omega)]
  have hs2 : (xI X 42 6).toInt = s := by rw [hE.2.1, nI_toInt (by have := hE.2.2.1; omega)]
  have hs3 := hE.2.2.1
  have hsw : 0 ≤ a0.toInt → a0.toInt < 40 → (xI X 49 a0.toNatClampNeg).toInt = (xI X 12 a0.toNatClampNeg).toInt ∧ 0 ≤ (xI X 12 a0.toNatClampNeg).toInt ∧ (xI X 12 a0.toNatClampNeg).toInt ≤ 1 := fun q1 q2 => by
    have := clp q1
    obtain ⟨e1, e2, -⟩ := hE.2.2.2 a0.toNatClampNeg (by omega)
    have := b_toInt e2
    exact ⟨congrArg Int32.toInt e1, by omega, by omega⟩
  have hcl := clp (x := a0)
  simp only [Int32.lt_iff_toInt_lt, Int32.le_iff_toInt_le, ← Int32.toInt_inj, u2_ap, reduceIte, Nat.reduceEqDiff, xI, xJ, xR, xS, xN, li_0, li_1, li_2, li_3, li_4, li_5, li_6, li_7, li_8, li_9, li_10, li_11, li_12, li_13, li_14, li_15, li_16, li_20, li_34, li_40, li_50, li_59, li_60, li_64, li_99, li_100, li_200, li_500, li_1439, li_1440, li_3840, li_4000, li_10000, li_60000, li_1000000, li_m1, li_min] at hs1 hs2 hsw
  have hr := congrArg Int32.toInt hH.2.2.2.1
  have hb := b_toInt hH.2.2.2.2.1
  simp only [Int32.lt_iff_toInt_lt, Int32.le_iff_toInt_le, ← Int32.toInt_inj, u2_ap, reduceIte, Nat.reduceEqDiff, xI, xJ, xR, xS, xN, li_0, li_1, li_2, li_3, li_4, li_5, li_6, li_7, li_8, li_9, li_10, li_11, li_12, li_13, li_14, li_15, li_16, li_20, li_34, li_40, li_50, li_59, li_60, li_64, li_99, li_100, li_200, li_500, li_1439, li_1440, li_3840, li_4000, li_10000, li_60000, li_1000000, li_m1, li_min] at hr hb
  have hst := congrArg Int32.toInt hH.2.2.2.2.2.2.2.2.2.1
  simp only [Int32.lt_iff_toInt_lt, Int32.le_iff_toInt_le, ← Int32.toInt_inj, u2_ap, reduceIte, Nat.reduceEqDiff, xI, xJ, xR, xS, xN, li_0, li_1, li_2, li_3, li_4, li_5, li_6, li_7, li_8, li_9, li_10, li_11, li_12, li_13, li_14, li_15, li_16, li_20, li_34, li_40, li_50, li_59, li_60, li_64, li_99, li_100, li_200, li_500, li_1439, li_1440, li_3840, li_4000, li_10000, li_60000, li_1000000, li_m1, li_min] at hst
  have hbl : 0 ≤ a0.toInt → a0.toInt < 40 → (xI X 12 a0.toNatClampNeg = 0 ∨ xI X 12 a0.toNatClampNeg = 1) ∧ (xI X 49 a0.toNatClampNeg = 0 ∨ xI X 49 a0.toNatClampNeg = 1) ∧ xI X 49 a0.toNatClampNeg = xI X 12 a0.toNatClampNeg ∧ xI X 50 a0.toNatClampNeg = xI X 13 a0.toNatClampNeg := fun q1 q2 => by
    have := clp q1
    obtain ⟨e1, e2, e3⟩ := hE.2.2.2 a0.toNatClampNeg (by omega)
    exact ⟨e2, by rw [e1]; exact e2, e1, e3⟩
  repeat' (first
    | with_reducible refine i_L_breaks ?_
    | with_reducible refine e_L_breaks_14 ?_
    | with_reducible refine e_L_breaks_15 ?_
    | with_reducible refine e_L_breaks_20 ?_
    | with_reducible refine e_L_breaks_22 ?_
    | with_reducible refine i_X11_breaks ?_
    | with_reducible refine i_X11_breakSeal ?_
    | with_reducible refine e_X11_breakSeal_49 ?_
    | with_reducible refine i_X12_breaks ?_
    | with_reducible refine e_X12_breaks_25 ?_
    | with_reducible refine e_X12_breaks_26 ?_
    | with_reducible refine i_X12_isSeal ?_
    | with_reducible refine e_X12_isSeal_17 ?_
    | with_reducible refine e_X12_isSeal_18 ?_
    | with_reducible refine i_X12_broken ?_
    | with_reducible refine e_X12_broken_34 ?_
    | (refine ⟨(hbl (by omega) (by omega)).1, ?_⟩)
    | (refine ⟨(hbl (by omega) (by omega)).2.1, ?_⟩)
    | with_reducible refine s_isFrom ?_ ?_
    | with_reducible refine s_demand1 ?_
    | with_reducible refine s_demand0 ?_
    | with_reducible refine s_demandSuch1 ?_
    | with_reducible refine s_demandSuch0 ?_
    | with_reducible refine s_demandState1 ?_
    | with_reducible refine s_demandState0 ?_
    | with_reducible refine s_demandPlace ?_ ?_
    | with_reducible refine s_refuse ?_ ?_
    | (with_reducible refine s_hired ?hb ?_ ?_; case hb => assumption)
    | with_reducible refine s_right1 ?_
    | with_reducible refine s_right0 (by decide) ?_
    | with_reducible refine s_thrown ?_
    | with_reducible refine rI_in ?_
    | with_reducible refine rV_in ?_
    | with_reducible refine rL_in ?_
    | with_reducible refine rR_in ?_
    | with_reducible refine ite_t rfl ?_
    | with_reducible refine ite_f (by decide) ?_
    | with_reducible refine gd_in (by decide) ?_
    | with_reducible refine or0_and ?_
    | with_reducible refine or1_and ?_
    | with_reducible refine br_t (by decide) ?_
    | with_reducible refine br_f (by decide) ?_
    | with_reducible refine br_t2 (by decide) ?_
    | with_reducible refine br_f2 (by decide) ?_
    | (with_reducible refine vin_and ?hv ?_; case hv => first | omega | (simp only [Int32.lt_iff_toInt_lt, Int32.le_iff_toInt_le, ← Int32.toInt_inj, u2_ap, reduceIte, Nat.reduceEqDiff, xI, xJ, xR, xS, xN, li_0, li_1, li_2, li_3, li_4, li_5, li_6, li_7, li_8, li_9, li_10, li_11, li_12, li_13, li_14, li_15, li_16, li_20, li_34, li_40, li_50, li_59, li_60, li_64, li_99, li_100, li_200, li_500, li_1439, li_1440, li_3840, li_4000, li_10000, li_60000, li_1000000, li_m1, li_min] at * <;> omega))
    | (with_reducible refine ne_and ?hv ?_; case hv => decide)
    | (refine hK _ _ (SamS.mk rfl rfl) (fun K2 KX2 hK2 => ?_); try dsimp only [xI, xJ, xR, xS, xN])
    | (with_reducible refine hK2 _ _ ?_; try dsimp only [xI, xJ, xR, xS, xN])
    | exact fin_thr H (by assumption) _ (by decide)
    | exact finL_thr H (by assumption) _ (by decide)
    | exact finB_thr H (by assumption) (by decide)
    | ((with_reducible refine br_s (fun c => ?_) (fun c => ?_)) <;> (try simp only [Int32.lt_iff_toInt_lt, Int32.le_iff_toInt_le, ← Int32.toInt_inj, u2_ap, reduceIte, Nat.reduceEqDiff, xI, xJ, xR, xS, xN, li_0, li_1, li_2, li_3, li_4, li_5, li_6, li_7, li_8, li_9, li_10, li_11, li_12, li_13, li_14, li_15, li_16, li_20, li_34, li_40, li_50, li_59, li_60, li_64, li_99, li_100, li_200, li_500, li_1439, li_1440, li_3840, li_4000, li_10000, li_60000, li_1000000, li_m1, li_min] at c) <;> (try (exfalso; omega)))
    | ((with_reducible refine br_s2 (fun c => ?_) (fun c => ?_)) <;> (try simp only [Int32.lt_iff_toInt_lt, Int32.le_iff_toInt_le, ← Int32.toInt_inj, u2_ap, reduceIte, Nat.reduceEqDiff, xI, xJ, xR, xS, xN, li_0, li_1, li_2, li_3, li_4, li_5, li_6, li_7, li_8, li_9, li_10, li_11, li_12, li_13, li_14, li_15, li_16, li_20, li_34, li_40, li_50, li_59, li_60, li_64, li_99, li_100, li_200, li_500, li_1439, li_1440, li_3840, li_4000, li_10000, li_60000, li_1000000, li_m1, li_min] at c) <;> (try (exfalso; omega)))
    | (intro c; (try simp only [Int32.lt_iff_toInt_lt, Int32.le_iff_toInt_le, ← Int32.toInt_inj, u2_ap, reduceIte, Nat.reduceEqDiff, xI, xJ, xR, xS, xN, li_0, li_1, li_2, li_3, li_4, li_5, li_6, li_7, li_8, li_9, li_10, li_11, li_12, li_13, li_14, li_15, li_16, li_20, li_34, li_40, li_50, li_59, li_60, li_64, li_99, li_100, li_200, li_500, li_1439, li_1440, li_3840, li_4000, li_10000, li_60000, li_1000000, li_m1, li_min] at c) <;> (try (exfalso; omega))))
  all_goals first
    | exact ⟨fin_of (n := n) (s := s) (h := h) (l := l) ⟨rlS_n (X := X) hS rfl rfl rfl rfl rfl (Nat.le_refl _), hW, hR, rlT_fr (X := X) (by repeat (first | exact fun _ _ => rfl | refine u2_hi (by decide) ?_ | refine u1_hi (by decide) ?_)) rfl rfl rfl rfl (Nat.le_refl _) rfl rfl hT, hL, rlE_put (X := X) (r := a0.toNatClampNeg) hE rfl rfl rfl rfl (stf_self _ _) (stf_self _ _) rfl (hbl (by omega) (by omega)).2.2.2 (Or.inl rfl), hKk, hH, rlC_fr (X := X) (by repeat (first | exact fun _ _ => rfl | refine u2_hi (by decide) ?_ | refine u1_hi (by decide) ?_)) rfl rfl rfl rfl rfl rfl rfl rfl (Nat.le_refl _) rfl hC, hG⟩ rfl rfl, Or.inl rfl⟩
    | exact ⟨fin_of (n := n) (s := s) (h := h) (l := l) ⟨rlS_n (X := X) hS rfl rfl rfl rfl rfl (Nat.le_refl _), hW, hR, rlT_fr (X := X) (by repeat (first | exact fun _ _ => rfl | refine u2_hi (by decide) ?_ | refine u1_hi (by decide) ?_)) rfl rfl rfl rfl (Nat.le_refl _) rfl rfl hT, hL, rlE_put (X := X) (r := a0.toNatClampNeg) hE rfl rfl rfl rfl (stf_self _ _) (stf_self _ _) rfl (hbl (by omega) (by omega)).2.2.2 (Or.inl rfl), hKk, hH, rlC_fr (X := X) (by repeat (first | exact fun _ _ => rfl | refine u2_hi (by decide) ?_ | refine u1_hi (by decide) ?_)) rfl rfl rfl rfl rfl rfl rfl rfl (Nat.le_refl _) rfl hC, hG⟩ rfl rfl, Or.inr rfl⟩
    | exact ⟨fin_of (n := n) (s := s) (h := h) (l := l) ⟨rlS_n (X := X) hS rfl rfl rfl rfl rfl (Nat.le_refl _), hW, hR, rlT_fr (X := X) (by repeat (first | exact fun _ _ => rfl | refine u2_hi (by decide) ?_ | refine u1_hi (by decide) ?_)) rfl rfl rfl rfl (Nat.le_refl _) rfl rfl hT, hL, rlE_put (X := X) (r := a0.toNatClampNeg) hE rfl rfl rfl rfl (stf_self _ _) (stf_self _ _) rfl (hbl (by omega) (by omega)).2.2.2 (Or.inl rfl), hKk, ⟨hH.1, hH.2.1, hH.2.2.1, hH.2.2.2.1, hH.2.2.2.2.1, hH.2.2.2.2.2.1, hH.2.2.2.2.2.2.1, rfl, Or.inl rfl, hH.2.2.2.2.2.2.2.2.2.1, hH.2.2.2.2.2.2.2.2.2.2⟩, rlC_fr (X := X) (by repeat (first | exact fun _ _ => rfl | refine u2_hi (by decide) ?_ | refine u1_hi (by decide) ?_)) rfl rfl rfl rfl rfl rfl rfl rfl (Nat.le_refl _) rfl hC, hG⟩ rfl rfl, Or.inl rfl⟩
    | exact ⟨fin_of (n := n) (s := s) (h := h) (l := l) ⟨rlS_n (X := X) hS rfl rfl rfl rfl rfl (Nat.le_refl _), hW, hR, rlT_fr (X := X) (by repeat (first | exact fun _ _ => rfl | refine u2_hi (by decide) ?_ | refine u1_hi (by decide) ?_)) rfl rfl rfl rfl (Nat.le_refl _) rfl rfl hT, hL, rlE_put (X := X) (r := a0.toNatClampNeg) hE rfl rfl rfl rfl (stf_self _ _) (stf_self _ _) rfl (hbl (by omega) (by omega)).2.2.2 (Or.inl rfl), hKk, ⟨hH.1, hH.2.1, hH.2.2.1, hH.2.2.2.1, hH.2.2.2.2.1, hH.2.2.2.2.2.1, hH.2.2.2.2.2.2.1, rfl, Or.inl rfl, hH.2.2.2.2.2.2.2.2.2.1, hH.2.2.2.2.2.2.2.2.2.2⟩, rlC_fr (X := X) (by repeat (first | exact fun _ _ => rfl | refine u2_hi (by decide) ?_ | refine u1_hi (by decide) ?_)) rfl rfl rfl rfl rfl rfl rfl rfl (Nat.le_refl _) rfl hC, hG⟩ rfl rfl, Or.inr rfl⟩
set_option maxHeartbeats 4000000 in
theorem op_blow {a0 : Int32} (H : Rel L xs t n s h l X) (hK : ∀ c X1, SamS X X1 → (∀ K2 KX2, (∀ b X4, FinB L xs t c b X4 → K2 (some (vI b)) X4) → w_X12_blow tb0 [vR (some 42), vI a0] X1 K2 KX2) → K (some (vI c)) X1) : w_L_blow tb0 [vR (some 4), vI a0, vR (some 91)] X K KX := by
  obtain ⟨hS, hW, hR, hT, hL, hE, hKk, hH, hC, hG⟩ := id H
  have hsl : 0 ≤ a0.toInt → a0.toInt < 12 → (xI X 47 a0.toNatClampNeg).toInt = (xI X 9 a0.toNatClampNeg).toInt ∧ (xI X 48 a0.toNatClampNeg).toInt = (xI X 10 a0.toNatClampNeg).toInt ∧ 0 ≤ (xI X 9 a0.toNatClampNeg).toInt ∧ (xI X 9 a0.toNatClampNeg).toInt ≤ 2 ∧ ((xI X 9 a0.toNatClampNeg).toInt = 1 → 0 ≤ (xI X 10 a0.toNatClampNeg).toInt ∧ (xI X 10 a0.toNatClampNeg).toInt ≤ (n : Int) - 1) ∧ ((xI X 9 a0.toNatClampNeg).toInt = 2 → 0 ≤ (xI X 10 a0.toNatClampNeg).toInt ∧ (xI X 10 a0.toNatClampNeg).toInt ≤ (s : Int) - 1) := fun q1 q2 => by
    have := clp q1
    obtain ⟨e1, e2, e3, e4, e5⟩ := hL a0.toNatClampNeg (by omega)
    exact ⟨congrArg Int32.toInt e1, congrArg Int32.toInt e2, e3.1, e3.2, e4, e5⟩
  have e48 : 0 ≤ a0.toInt → a0.toInt < 12 → xI X 48 a0.toNatClampNeg = xI X 10 a0.toNatClampNeg := fun q1 q2 => by
    have := clp q1
    exact (hL a0.toNatClampNeg (by omega)).2.1
  have hn12 := hT.2.2.1
  have hs40 := hE.2.2.1
  have hcl := clp (x := a0)
  have hx10 : (xI X 10 a0.toNatClampNeg).toInt = (X.2.1 10 a0.toNatClampNeg).toInt := rfl
  simp only [Int32.lt_iff_toInt_lt, Int32.le_iff_toInt_le, ← Int32.toInt_inj, u2_ap, reduceIte, Nat.reduceEqDiff, xI, xJ, xR, xS, xN, li_0, li_1, li_2, li_3, li_4, li_5, li_6, li_7, li_8, li_9, li_10, li_11, li_12, li_13, li_14, li_15, li_16, li_20, li_34, li_40, li_50, li_59, li_60, li_64, li_99, li_100, li_200, li_500, li_1439, li_1440, li_3840, li_4000, li_10000, li_60000, li_1000000, li_m1, li_min] at hsl
  have hr := congrArg Int32.toInt hH.2.2.2.1
  have hb := b_toInt hH.2.2.2.2.1
  simp only [Int32.lt_iff_toInt_lt, Int32.le_iff_toInt_le, ← Int32.toInt_inj, u2_ap, reduceIte, Nat.reduceEqDiff, xI, xJ, xR, xS, xN, li_0, li_1, li_2, li_3, li_4, li_5, li_6, li_7, li_8, li_9, li_10, li_11, li_12, li_13, li_14, li_15, li_16, li_20, li_34, li_40, li_50, li_59, li_60, li_64, li_99, li_100, li_200, li_500, li_1439, li_1440, li_3840, li_4000, li_10000, li_60000, li_1000000, li_m1, li_min] at hr hb
  have hst := congrArg Int32.toInt hH.2.2.2.2.2.2.2.2.2.1
  simp only [Int32.lt_iff_toInt_lt, Int32.le_iff_toInt_le, ← Int32.toInt_inj, u2_ap, reduceIte, Nat.reduceEqDiff, xI, xJ, xR, xS, xN, li_0, li_1, li_2, li_3, li_4, li_5, li_6, li_7, li_8, li_9, li_10, li_11, li_12, li_13, li_14, li_15, li_16, li_20, li_34, li_40, li_50, li_59, li_60, li_64, li_99, li_100, li_200, li_500, li_1439, li_1440, li_3840, li_4000, li_10000, li_60000, li_1000000, li_m1, li_min] at hst
  have hbl : 0 ≤ (xI X 10 a0.toNatClampNeg).toInt → (xI X 10 a0.toNatClampNeg).toInt < 40 → (xI X 12 (xI X 10 a0.toNatClampNeg).toNatClampNeg = 0 ∨ xI X 12 (xI X 10 a0.toNatClampNeg).toNatClampNeg = 1) ∧ (xI X 49 (xI X 10 a0.toNatClampNeg).toNatClampNeg = 0 ∨ xI X 49 (xI X 10 a0.toNatClampNeg).toNatClampNeg = 1) ∧ xI X 49 (xI X 10 a0.toNatClampNeg).toNatClampNeg = xI X 12 (xI X 10 a0.toNatClampNeg).toNatClampNeg ∧ xI X 50 (xI X 10 a0.toNatClampNeg).toNatClampNeg = xI X 13 (xI X 10 a0.toNatClampNeg).toNatClampNeg := fun q1 q2 => by
    have := clp q1
    obtain ⟨e1, e2, e3⟩ := hE.2.2.2 (xI X 10 a0.toNatClampNeg).toNatClampNeg (by omega)
    exact ⟨e2, by rw [e1]; exact e2, e1, e3⟩
  repeat' (first
    | with_reducible refine i_L_blow ?_
    | with_reducible refine e_L_blow_14 ?_
    | with_reducible refine e_L_blow_15 ?_
    | with_reducible refine e_L_blow_26 ?_
    | with_reducible refine e_L_blow_23 ?_
    | with_reducible refine e_L_blow_20 ?_
    | with_reducible refine e_L_blow_28 ?_
    | with_reducible refine i_X11_blow ?_
    | with_reducible refine e_X11_blow_19 ?_
    | with_reducible refine e_X11_blow_20 ?_
    | with_reducible refine e_X11_blow_37 ?_
    | with_reducible refine e_X11_blow_38 ?_
    | with_reducible refine i_X11_breakSeal ?_
    | with_reducible refine e_X11_breakSeal_49 ?_
    | with_reducible refine i_X12_blow ?_
    | with_reducible refine e_X12_blow_59 ?_
    | with_reducible refine e_X12_blow_28 ?_
    | with_reducible refine e_X12_blow_29 ?_
    | with_reducible refine e_X12_blow_51 ?_
    | with_reducible refine e_X12_blow_52 ?_
    | with_reducible refine e_X12_blow_61 ?_
    | with_reducible refine i_X12_isSlot ?_
    | with_reducible refine e_X12_isSlot_15 ?_
    | with_reducible refine e_X12_isSlot_16 ?_
    | with_reducible refine i_X12_broken ?_
    | with_reducible refine e_X12_broken_34 ?_
    | (refine ⟨(hbl (by omega) (by omega)).1, ?_⟩)
    | (refine ⟨(by have z := (hbl (by omega) (by omega)).2.1; rw [← e48 (by omega) (by omega)] at z; exact z), ?_⟩)
    | with_reducible refine s_isFrom ?_ ?_
    | with_reducible refine s_demand1 ?_
    | with_reducible refine s_demand0 ?_
    | with_reducible refine s_demandSuch1 ?_
    | with_reducible refine s_demandSuch0 ?_
    | with_reducible refine s_demandState1 ?_
    | with_reducible refine s_demandState0 ?_
    | with_reducible refine s_demandPlace ?_ ?_
    | with_reducible refine s_refuse ?_ ?_
    | (with_reducible refine s_hired ?hb ?_ ?_; case hb => assumption)
    | with_reducible refine s_right1 ?_
    | with_reducible refine s_right0 (by decide) ?_
    | with_reducible refine s_thrown ?_
    | with_reducible refine rI_in ?_
    | with_reducible refine rV_in ?_
    | with_reducible refine rL_in ?_
    | with_reducible refine rR_in ?_
    | with_reducible refine ite_t rfl ?_
    | with_reducible refine ite_f (by decide) ?_
    | with_reducible refine gd_in (by decide) ?_
    | with_reducible refine or0_and ?_
    | with_reducible refine or1_and ?_
    | with_reducible refine br_t (by decide) ?_
    | with_reducible refine br_f (by decide) ?_
    | with_reducible refine br_t2 (by decide) ?_
    | with_reducible refine br_f2 (by decide) ?_
    | (with_reducible refine vin_and ?hv ?_; case hv => first | omega | (simp only [Int32.lt_iff_toInt_lt, Int32.le_iff_toInt_le, ← Int32.toInt_inj, u2_ap, reduceIte, Nat.reduceEqDiff, xI, xJ, xR, xS, xN, li_0, li_1, li_2, li_3, li_4, li_5, li_6, li_7, li_8, li_9, li_10, li_11, li_12, li_13, li_14, li_15, li_16, li_20, li_34, li_40, li_50, li_59, li_60, li_64, li_99, li_100, li_200, li_500, li_1439, li_1440, li_3840, li_4000, li_10000, li_60000, li_1000000, li_m1, li_min] at * <;> omega))
    | (with_reducible refine ne_and ?hv ?_; case hv => decide)
    | (refine hK _ _ (SamS.mk rfl rfl) (fun K2 KX2 hK2 => ?_); try dsimp only [xI, xJ, xR, xS, xN])
    | (with_reducible refine hK2 _ _ ?_; try dsimp only [xI, xJ, xR, xS, xN])
    | exact fin_thr H (by assumption) _ (by decide)
    | exact finL_thr H (by assumption) _ (by decide)
    | exact finB_thr H (by assumption) (by decide)
    | ((with_reducible refine br_s (fun c => ?_) (fun c => ?_)) <;> (try simp only [Int32.lt_iff_toInt_lt, Int32.le_iff_toInt_le, ← Int32.toInt_inj, u2_ap, reduceIte, Nat.reduceEqDiff, xI, xJ, xR, xS, xN, li_0, li_1, li_2, li_3, li_4, li_5, li_6, li_7, li_8, li_9, li_10, li_11, li_12, li_13, li_14, li_15, li_16, li_20, li_34, li_40, li_50, li_59, li_60, li_64, li_99, li_100, li_200, li_500, li_1439, li_1440, li_3840, li_4000, li_10000, li_60000, li_1000000, li_m1, li_min] at c) <;> (try (exfalso; omega)))
    | ((with_reducible refine br_s2 (fun c => ?_) (fun c => ?_)) <;> (try simp only [Int32.lt_iff_toInt_lt, Int32.le_iff_toInt_le, ← Int32.toInt_inj, u2_ap, reduceIte, Nat.reduceEqDiff, xI, xJ, xR, xS, xN, li_0, li_1, li_2, li_3, li_4, li_5, li_6, li_7, li_8, li_9, li_10, li_11, li_12, li_13, li_14, li_15, li_16, li_20, li_34, li_40, li_50, li_59, li_60, li_64, li_99, li_100, li_200, li_500, li_1439, li_1440, li_3840, li_4000, li_10000, li_60000, li_1000000, li_m1, li_min] at c) <;> (try (exfalso; omega)))
    | (intro c; (try simp only [Int32.lt_iff_toInt_lt, Int32.le_iff_toInt_le, ← Int32.toInt_inj, u2_ap, reduceIte, Nat.reduceEqDiff, xI, xJ, xR, xS, xN, li_0, li_1, li_2, li_3, li_4, li_5, li_6, li_7, li_8, li_9, li_10, li_11, li_12, li_13, li_14, li_15, li_16, li_20, li_34, li_40, li_50, li_59, li_60, li_64, li_99, li_100, li_200, li_500, li_1439, li_1440, li_3840, li_4000, li_10000, li_60000, li_1000000, li_m1, li_min] at c) <;> (try (exfalso; omega))))
  all_goals (
    obtain ⟨b1, b2, b3, b4⟩ := hbl (by omega) (by omega)
    have ek := e48 (by omega) (by omega)
    have b2' : xI X 49 (xI X 48 a0.toNatClampNeg).toNatClampNeg = 0 ∨ xI X 49 (xI X 48 a0.toNatClampNeg).toNatClampNeg = 1 := by rw [ek]; exact b2
    have eq0 : (X.2.1 12 (X.2.1 10 a0.toNatClampNeg).toNatClampNeg).toInt = 0 → (0 : Int64) = (xI X 49 (xI X 48 a0.toNatClampNeg).toNatClampNeg).toInt64 := fun z => by
      have z' : xI X 12 (xI X 10 a0.toNatClampNeg).toNatClampNeg = 0 := Int32.toInt_inj.mp (z.trans z32.symm)
      rw [ek, b3, z']; rfl
    have eq1 : ¬ (X.2.1 12 (X.2.1 10 a0.toNatClampNeg).toNatClampNeg).toInt = 0 → (1 : Int64) = (xI X 49 (xI X 48 a0.toNatClampNeg).toNatClampNeg).toInt64 := fun z => by
      rcases b1 with q | q
      · exact absurd ((congrArg Int32.toInt q).trans z32) z
      · rw [ek, b3, q]; rfl
    first
    | exact ⟨fin_of (n := n) (s := s) (h := h) (l := l) ⟨rlS_n (X := X) hS rfl rfl rfl rfl rfl (Nat.le_refl _), hW, hR, rlT_fr (X := X) (by repeat (first | exact fun _ _ => rfl | refine u2_hi (by decide) ?_ | refine u1_hi (by decide) ?_)) rfl rfl rfl rfl (Nat.le_refl _) rfl rfl hT, hL, rlE_put (X := X) (r := (xI X 10 a0.toNatClampNeg).toNatClampNeg) hE rfl rfl rfl (by rw [← e48 (by omega) (by omega)]; rfl) (stf_self _ _) (stf_self _ _) rfl (hbl (by omega) (by omega)).2.2.2 (Or.inl rfl), hKk, hH, rlC_fr (X := X) (by repeat (first | exact fun _ _ => rfl | refine u2_hi (by decide) ?_ | refine u1_hi (by decide) ?_)) rfl rfl rfl rfl rfl rfl rfl rfl (Nat.le_refl _) rfl hC, hG⟩ rfl (eq0 (by assumption)), b2'⟩
    | exact ⟨fin_of (n := n) (s := s) (h := h) (l := l) ⟨rlS_n (X := X) hS rfl rfl rfl rfl rfl (Nat.le_refl _), hW, hR, rlT_fr (X := X) (by repeat (first | exact fun _ _ => rfl | refine u2_hi (by decide) ?_ | refine u1_hi (by decide) ?_)) rfl rfl rfl rfl (Nat.le_refl _) rfl rfl hT, hL, rlE_put (X := X) (r := (xI X 10 a0.toNatClampNeg).toNatClampNeg) hE rfl rfl rfl (by rw [← e48 (by omega) (by omega)]; rfl) (stf_self _ _) (stf_self _ _) rfl (hbl (by omega) (by omega)).2.2.2 (Or.inl rfl), hKk, hH, rlC_fr (X := X) (by repeat (first | exact fun _ _ => rfl | refine u2_hi (by decide) ?_ | refine u1_hi (by decide) ?_)) rfl rfl rfl rfl rfl rfl rfl rfl (Nat.le_refl _) rfl hC, hG⟩ rfl (eq1 (by assumption)), b2'⟩
    | exact ⟨fin_of (n := n) (s := s) (h := h) (l := l) ⟨rlS_n (X := X) hS rfl rfl rfl rfl rfl (Nat.le_refl _), hW, hR, rlT_fr (X := X) (by repeat (first | exact fun _ _ => rfl | refine u2_hi (by decide) ?_ | refine u1_hi (by decide) ?_)) rfl rfl rfl rfl (Nat.le_refl _) rfl rfl hT, hL, rlE_put (X := X) (r := (xI X 10 a0.toNatClampNeg).toNatClampNeg) hE rfl rfl rfl (by rw [← e48 (by omega) (by omega)]; rfl) (stf_self _ _) (stf_self _ _) rfl (hbl (by omega) (by omega)).2.2.2 (Or.inl rfl), hKk, ⟨hH.1, hH.2.1, hH.2.2.1, hH.2.2.2.1, hH.2.2.2.2.1, hH.2.2.2.2.2.1, hH.2.2.2.2.2.2.1, rfl, Or.inl rfl, hH.2.2.2.2.2.2.2.2.2.1, hH.2.2.2.2.2.2.2.2.2.2⟩, rlC_fr (X := X) (by repeat (first | exact fun _ _ => rfl | refine u2_hi (by decide) ?_ | refine u1_hi (by decide) ?_)) rfl rfl rfl rfl rfl rfl rfl rfl (Nat.le_refl _) rfl hC, hG⟩ rfl (eq0 (by assumption)), b2'⟩
    | exact ⟨fin_of (n := n) (s := s) (h := h) (l := l) ⟨rlS_n (X := X) hS rfl rfl rfl rfl rfl (Nat.le_refl _), hW, hR, rlT_fr (X := X) (by repeat (first | exact fun _ _ => rfl | refine u2_hi (by decide) ?_ | refine u1_hi (by decide) ?_)) rfl rfl rfl rfl (Nat.le_refl _) rfl rfl hT, hL, rlE_put (X := X) (r := (xI X 10 a0.toNatClampNeg).toNatClampNeg) hE rfl rfl rfl (by rw [← e48 (by omega) (by omega)]; rfl) (stf_self _ _) (stf_self _ _) rfl (hbl (by omega) (by omega)).2.2.2 (Or.inl rfl), hKk, ⟨hH.1, hH.2.1, hH.2.2.1, hH.2.2.2.1, hH.2.2.2.2.1, hH.2.2.2.2.2.1, hH.2.2.2.2.2.2.1, rfl, Or.inl rfl, hH.2.2.2.2.2.2.2.2.2.1, hH.2.2.2.2.2.2.2.2.2.2⟩, rlC_fr (X := X) (by repeat (first | exact fun _ _ => rfl | refine u2_hi (by decide) ?_ | refine u1_hi (by decide) ?_)) rfl rfl rfl rfl rfl rfl rfl rfl (Nat.le_refl _) rfl hC, hG⟩ rfl (eq1 (by assumption)), b2'⟩
  )
end Ops
