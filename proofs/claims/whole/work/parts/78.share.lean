/-! what hire, hand and should share -/
section Share
variable {X : AX} {S : Nat → Nat × Nat} {F : Nat → Nat → Int32} {I : Nat → Nat → Int32} {J : Nat → Nat → Int64} {R : Nat → Nat → Option Nat} {nn n s : Nat} {K : Option AV → AX → Prop} {KX : String → AX → Prop} {a0 a1 a2 a3 : Int32}
set_option maxHeartbeats 4000000 in
theorem s_demandBeginning (h1 : 0 ≤ a0.toInt ∧ a0.toInt ≤ 99 ∧ 0 ≤ a1.toInt ∧ a1.toInt ≤ 1439 ∧ 0 ≤ a2.toInt ∧ a2.toInt ≤ 59 → K none X) (h0 : ¬ (0 ≤ a0.toInt ∧ a0.toInt ≤ 99 ∧ 0 ≤ a1.toInt ∧ a1.toInt ≤ 1439 ∧ 0 ≤ a2.toInt ∧ a2.toInt ≤ 59) → ∀ n1, xN X ≤ n1 → KX "java/lang/IllegalArgumentException" (xS X, xI X, xJ X, xR X, n1)) : w_X11_demandBeginning tb0 [vI a0, vI a1, vI a2] X K KX := by
  repeat' (first
    | with_reducible refine i_X11_demandBeginning ?_
    | with_reducible refine e_X11_demandBeginning_35 ?_
    | with_reducible refine e_X11_demandBeginning_36 ?_
    | exact h1 (by omega)
    | exact h0 (by omega) _ (by assumption)
    | with_reducible refine s_isFrom ?_ ?_
    | with_reducible refine s_demand1 ?_
    | with_reducible refine s_demand0 ?_
    | with_reducible refine s_demandSuch1 ?_
    | with_reducible refine s_demandSuch0 ?_
    | with_reducible refine s_demandState1 ?_
    | with_reducible refine s_demandState0 ?_
    | with_reducible refine s_demandPlace ?_ ?_
    | with_reducible refine s_refuse ?_ ?_
    | (with_reducible refine s_hired ?hb ?_ ?_; case hb => assumption)
    | with_reducible refine s_right1 ?_
    | with_reducible refine s_right0 (by decide) ?_
    | with_reducible refine s_thrown ?_
    | with_reducible refine rI_in ?_
    | with_reducible refine rV_in ?_
    | with_reducible refine rL_in ?_
    | with_reducible refine rR_in ?_
    | with_reducible refine ite_t rfl ?_
    | with_reducible refine ite_f (by decide) ?_
    | with_reducible refine gd_in (by decide) ?_
    | with_reducible refine or0_and ?_
    | with_reducible refine or1_and ?_
    | with_reducible refine br_t (by decide) ?_
    | with_reducible refine br_f (by decide) ?_
    | with_reducible refine br_t2 (by decide) ?_
    | with_reducible refine br_f2 (by decide) ?_
    | (with_reducible refine vin_and ?hv ?_; case hv => first | omega | (simp only [Int32.lt_iff_toInt_lt, Int32.le_iff_toInt_le, ← Int32.toInt_inj, u2_ap, reduceIte, Nat.reduceEqDiff, xI, xJ, xR, xS, xN, li_0, li_1, li_2, li_3, li_4, li_5, li_6, li_7, li_8, li_9, li_10, li_11, li_12, li_13, li_14, li_15, li_16, li_20, li_34, li_40, li_50, li_59, li_60, li_64, li_99, li_100, li_200, li_500, li_1439, li_1440, li_3840, li_4000, li_10000, li_60000, li_1000000, li_m1, li_min, ck_0, ck_1, ck_2, ck_3, ck_4] at * <;> omega))
    | (with_reducible refine ne_and ?hv ?_; case hv => decide)
    | ((with_reducible refine br_s (fun c => ?_) (fun c => ?_)) <;> (try simp only [Int32.lt_iff_toInt_lt, Int32.le_iff_toInt_le, ← Int32.toInt_inj, u2_ap, reduceIte, Nat.reduceEqDiff, xI, xJ, xR, xS, xN, li_0, li_1, li_2, li_3, li_4, li_5, li_6, li_7, li_8, li_9, li_10, li_11, li_12, li_13, li_14, li_15, li_16, li_20, li_34, li_40, li_50, li_59, li_60, li_64, li_99, li_100, li_200, li_500, li_1439, li_1440, li_3840, li_4000, li_10000, li_60000, li_1000000, li_m1, li_min, ck_0, ck_1, ck_2, ck_3, ck_4] at c) <;> (try (exfalso; omega)))
    | ((with_reducible refine br_s2 (fun c => ?_) (fun c => ?_)) <;> (try simp only [Int32.lt_iff_toInt_lt, Int32.le_iff_toInt_le, ← Int32.toInt_inj, u2_ap, reduceIte, Nat.reduceEqDiff, xI, xJ, xR, xS, xN, li_0, li_1, li_2, li_3, li_4, li_5, li_6, li_7, li_8, li_9, li_10, li_11, li_12, li_13, li_14, li_15, li_16, li_20, li_34, li_40, li_50, li_59, li_60, li_64, li_99, li_100, li_200, li_500, li_1439, li_1440, li_3840, li_4000, li_10000, li_60000, li_1000000, li_m1, li_min, ck_0, ck_1, ck_2, ck_3, ck_4] at c) <;> (try (exfalso; omega)))
    | ((with_reducible intro c); (try simp only [Int32.lt_iff_toInt_lt, Int32.le_iff_toInt_le, ← Int32.toInt_inj, u2_ap, reduceIte, Nat.reduceEqDiff, xI, xJ, xR, xS, xN, li_0, li_1, li_2, li_3, li_4, li_5, li_6, li_7, li_8, li_9, li_10, li_11, li_12, li_13, li_14, li_15, li_16, li_20, li_34, li_40, li_50, li_59, li_60, li_64, li_99, li_100, li_200, li_500, li_1439, li_1440, li_3840, li_4000, li_10000, li_60000, li_1000000, li_m1, li_min, ck_0, ck_1, ck_2, ck_3, ck_4] at c) <;> (try (exfalso; omega))))
set_option maxHeartbeats 4000000 in
theorem s_isBeginning (ha : ¬ a3 = 0) (h1 : 0 ≤ a0.toInt ∧ a0.toInt ≤ 99 ∧ 0 ≤ a1.toInt ∧ a1.toInt ≤ 1439 ∧ 0 ≤ a2.toInt ∧ a2.toInt ≤ 59 → K (some (vI 1)) (S, u2 I 42 0 0, J, R, nn)) (h0 : ¬ (0 ≤ a0.toInt ∧ a0.toInt ≤ 99 ∧ 0 ≤ a1.toInt ∧ a1.toInt ≤ 1439 ∧ 0 ≤ a2.toInt ∧ a2.toInt ≤ 59) → K (some (vI 0)) (S, u2 (u2 I 42 0 0) 42 0 a3, J, R, nn)) : w_X12_isBeginning tb0 [vR (some 42), vI a0, vI a1, vI a2, vI a3] (S, u2 I 42 0 0, J, R, nn) K KX := by
  repeat' (first
    | with_reducible refine i_X12_isBeginning ?_
    | with_reducible refine e_X12_isBeginning_36 ?_
    | with_reducible refine e_X12_isBeginning_37 ?_
    | with_reducible refine s_right0 ha ?_
    | exact h1 (by omega)
    | exact h0 (by omega)
    | with_reducible refine s_isFrom ?_ ?_
    | with_reducible refine s_demand1 ?_
    | with_reducible refine s_demand0 ?_
    | with_reducible refine s_demandSuch1 ?_
    | with_reducible refine s_demandSuch0 ?_
    | with_reducible refine s_demandState1 ?_
    | with_reducible refine s_demandState0 ?_
    | with_reducible refine s_demandPlace ?_ ?_
    | with_reducible refine s_refuse ?_ ?_
    | (with_reducible refine s_hired ?hb ?_ ?_; case hb => assumption)
    | with_reducible refine s_right1 ?_
    | with_reducible refine s_right0 (by decide) ?_
    | with_reducible refine s_thrown ?_
    | with_reducible refine rI_in ?_
    | with_reducible refine rV_in ?_
    | with_reducible refine rL_in ?_
    | with_reducible refine rR_in ?_
    | with_reducible refine ite_t rfl ?_
    | with_reducible refine ite_f (by decide) ?_
    | with_reducible refine gd_in (by decide) ?_
    | with_reducible refine or0_and ?_
    | with_reducible refine or1_and ?_
    | with_reducible refine br_t (by decide) ?_
    | with_reducible refine br_f (by decide) ?_
    | with_reducible refine br_t2 (by decide) ?_
    | with_reducible refine br_f2 (by decide) ?_
    | (with_reducible refine vin_and ?hv ?_; case hv => first | omega | (simp only [Int32.lt_iff_toInt_lt, Int32.le_iff_toInt_le, ← Int32.toInt_inj, u2_ap, reduceIte, Nat.reduceEqDiff, xI, xJ, xR, xS, xN, li_0, li_1, li_2, li_3, li_4, li_5, li_6, li_7, li_8, li_9, li_10, li_11, li_12, li_13, li_14, li_15, li_16, li_20, li_34, li_40, li_50, li_59, li_60, li_64, li_99, li_100, li_200, li_500, li_1439, li_1440, li_3840, li_4000, li_10000, li_60000, li_1000000, li_m1, li_min, ck_0, ck_1, ck_2, ck_3, ck_4] at * <;> omega))
    | (with_reducible refine ne_and ?hv ?_; case hv => decide)
    | ((with_reducible refine br_s (fun c => ?_) (fun c => ?_)) <;> (try simp only [Int32.lt_iff_toInt_lt, Int32.le_iff_toInt_le, ← Int32.toInt_inj, u2_ap, reduceIte, Nat.reduceEqDiff, xI, xJ, xR, xS, xN, li_0, li_1, li_2, li_3, li_4, li_5, li_6, li_7, li_8, li_9, li_10, li_11, li_12, li_13, li_14, li_15, li_16, li_20, li_34, li_40, li_50, li_59, li_60, li_64, li_99, li_100, li_200, li_500, li_1439, li_1440, li_3840, li_4000, li_10000, li_60000, li_1000000, li_m1, li_min, ck_0, ck_1, ck_2, ck_3, ck_4] at c) <;> (try (exfalso; omega)))
    | ((with_reducible refine br_s2 (fun c => ?_) (fun c => ?_)) <;> (try simp only [Int32.lt_iff_toInt_lt, Int32.le_iff_toInt_le, ← Int32.toInt_inj, u2_ap, reduceIte, Nat.reduceEqDiff, xI, xJ, xR, xS, xN, li_0, li_1, li_2, li_3, li_4, li_5, li_6, li_7, li_8, li_9, li_10, li_11, li_12, li_13, li_14, li_15, li_16, li_20, li_34, li_40, li_50, li_59, li_60, li_64, li_99, li_100, li_200, li_500, li_1439, li_1440, li_3840, li_4000, li_10000, li_60000, li_1000000, li_m1, li_min, ck_0, ck_1, ck_2, ck_3, ck_4] at c) <;> (try (exfalso; omega)))
    | ((with_reducible intro c); (try simp only [Int32.lt_iff_toInt_lt, Int32.le_iff_toInt_le, ← Int32.toInt_inj, u2_ap, reduceIte, Nat.reduceEqDiff, xI, xJ, xR, xS, xN, li_0, li_1, li_2, li_3, li_4, li_5, li_6, li_7, li_8, li_9, li_10, li_11, li_12, li_13, li_14, li_15, li_16, li_20, li_34, li_40, li_50, li_59, li_60, li_64, li_99, li_100, li_200, li_500, li_1439, li_1440, li_3840, li_4000, li_10000, li_60000, li_1000000, li_m1, li_min, ck_0, ck_1, ck_2, ck_3, ck_4] at c) <;> (try (exfalso; omega))))
set_option maxHeartbeats 4000000 in
theorem s_isHeld (h0 : 0 ≤ a0.toInt) (h12 : a0.toInt < 12) (ha : ¬ a1 = 0) (hb : ¬ a2 = 0) (hs : 0 ≤ (I 47 a0.toNatClampNeg).toInt ∧ (I 47 a0.toNatClampNeg).toInt ≤ 2) (h1 : (I 47 a0.toNatClampNeg).toInt = 1 → K (some (vI 1)) (S, u2 I 42 0 0, J, R, nn)) (hn : (I 47 a0.toNatClampNeg).toInt = 0 → K (some (vI 0)) (S, u2 (u2 I 42 0 0) 42 0 a1, J, R, nn)) (h2 : (I 47 a0.toNatClampNeg).toInt = 2 → K (some (vI 0)) (S, u2 (u2 I 42 0 0) 42 0 a2, J, R, nn)) : w_X12_isHeld tb0 [vR (some 42), vI a0, vI a1, vI a2] (S, u2 I 42 0 0, J, R, nn) K KX := by
  repeat' (first
    | with_reducible refine i_X12_isHeld ?_
    | with_reducible refine e_X12_isHeld_14 ?_
    | with_reducible refine e_X12_isHeld_15 ?_
    | with_reducible refine e_X12_isHeld_49 ?_
    | with_reducible refine e_X12_isHeld_37 ?_
    | with_reducible refine e_X12_isHeld_38 ?_
    | with_reducible refine e_X12_isHeld_50 ?_
    | with_reducible refine s_right0 ha ?_
    | with_reducible refine s_right0 hb ?_
    | exact h1 (by omega)
    | exact hn (by omega)
    | exact h2 (by omega)
    | with_reducible refine s_isFrom ?_ ?_
    | with_reducible refine s_demand1 ?_
    | with_reducible refine s_demand0 ?_
    | with_reducible refine s_demandSuch1 ?_
    | with_reducible refine s_demandSuch0 ?_
    | with_reducible refine s_demandState1 ?_
    | with_reducible refine s_demandState0 ?_
    | with_reducible refine s_demandPlace ?_ ?_
    | with_reducible refine s_refuse ?_ ?_
    | (with_reducible refine s_hired ?hb ?_ ?_; case hb => assumption)
    | with_reducible refine s_right1 ?_
    | with_reducible refine s_right0 (by decide) ?_
    | with_reducible refine s_thrown ?_
    | with_reducible refine rI_in ?_
    | with_reducible refine rV_in ?_
    | with_reducible refine rL_in ?_
    | with_reducible refine rR_in ?_
    | with_reducible refine ite_t rfl ?_
    | with_reducible refine ite_f (by decide) ?_
    | with_reducible refine gd_in (by decide) ?_
    | with_reducible refine or0_and ?_
    | with_reducible refine or1_and ?_
    | with_reducible refine br_t (by decide) ?_
    | with_reducible refine br_f (by decide) ?_
    | with_reducible refine br_t2 (by decide) ?_
    | with_reducible refine br_f2 (by decide) ?_
    | (with_reducible refine vin_and ?hv ?_; case hv => first | omega | (simp only [Int32.lt_iff_toInt_lt, Int32.le_iff_toInt_le, ← Int32.toInt_inj, u2_ap, reduceIte, Nat.reduceEqDiff, xI, xJ, xR, xS, xN, li_0, li_1, li_2, li_3, li_4, li_5, li_6, li_7, li_8, li_9, li_10, li_11, li_12, li_13, li_14, li_15, li_16, li_20, li_34, li_40, li_50, li_59, li_60, li_64, li_99, li_100, li_200, li_500, li_1439, li_1440, li_3840, li_4000, li_10000, li_60000, li_1000000, li_m1, li_min, ck_0, ck_1, ck_2, ck_3, ck_4] at * <;> omega))
    | (with_reducible refine ne_and ?hv ?_; case hv => decide)
    | ((with_reducible refine br_s (fun c => ?_) (fun c => ?_)) <;> (try simp only [Int32.lt_iff_toInt_lt, Int32.le_iff_toInt_le, ← Int32.toInt_inj, u2_ap, reduceIte, Nat.reduceEqDiff, xI, xJ, xR, xS, xN, li_0, li_1, li_2, li_3, li_4, li_5, li_6, li_7, li_8, li_9, li_10, li_11, li_12, li_13, li_14, li_15, li_16, li_20, li_34, li_40, li_50, li_59, li_60, li_64, li_99, li_100, li_200, li_500, li_1439, li_1440, li_3840, li_4000, li_10000, li_60000, li_1000000, li_m1, li_min, ck_0, ck_1, ck_2, ck_3, ck_4] at c) <;> (try (exfalso; omega)))
    | ((with_reducible refine br_s2 (fun c => ?_) (fun c => ?_)) <;> (try simp only [Int32.lt_iff_toInt_lt, Int32.le_iff_toInt_le, ← Int32.toInt_inj, u2_ap, reduceIte, Nat.reduceEqDiff, xI, xJ, xR, xS, xN, li_0, li_1, li_2, li_3, li_4, li_5, li_6, li_7, li_8, li_9, li_10, li_11, li_12, li_13, li_14, li_15, li_16, li_20, li_34, li_40, li_50, li_59, li_60, li_64, li_99, li_100, li_200, li_500, li_1439, li_1440, li_3840, li_4000, li_10000, li_60000, li_1000000, li_m1, li_min, ck_0, ck_1, ck_2, ck_3, ck_4] at c) <;> (try (exfalso; omega)))
    | ((with_reducible intro c); (try simp only [Int32.lt_iff_toInt_lt, Int32.le_iff_toInt_le, ← Int32.toInt_inj, u2_ap, reduceIte, Nat.reduceEqDiff, xI, xJ, xR, xS, xN, li_0, li_1, li_2, li_3, li_4, li_5, li_6, li_7, li_8, li_9, li_10, li_11, li_12, li_13, li_14, li_15, li_16, li_20, li_34, li_40, li_50, li_59, li_60, li_64, li_99, li_100, li_200, li_500, li_1439, li_1440, li_3840, li_4000, li_10000, li_60000, li_1000000, li_m1, li_min, ck_0, ck_1, ck_2, ck_3, ck_4] at c) <;> (try (exfalso; omega))))
set_option maxHeartbeats 4000000 in
theorem s_tariffHeld (hT : rlT n X) (hL : rlL n s X) (h0 : 0 ≤ a0.toInt) (h12 : a0.toInt < 12) (h1 : ∀ d, (xI X 9 a0.toNatClampNeg).toInt = 1 → bnd (xI X 10 a0.toNatClampNeg) 0 ((n : Int) - 1) → rlT1 X (xI X 10 a0.toNatClampNeg).toNatClampNeg d → K (some (vR (some d))) X) (hn : (xI X 9 a0.toNatClampNeg).toInt = 0 → ∀ n1, xN X ≤ n1 → KX "java/util/NoSuchElementException" (xS X, xI X, xJ X, xR X, n1)) (h2 : (xI X 9 a0.toNatClampNeg).toInt = 2 → ∀ n1, xN X ≤ n1 → KX "java/lang/IllegalArgumentException" (xS X, xI X, xJ X, xR X, n1)) : w_X11_tariffHeld tb0 [vR (some 4), vI a0] X K KX := by
  have hc := clp h0
  obtain ⟨-, -, hb, hb1, -⟩ := hL a0.toNatClampNeg (by omega)
  have hv := vp_in_iff.mpr (show 0 ≤ a0.toInt ∧ a0.toInt < (12 : Nat) from ⟨h0, h12⟩)
  have hb' := hb
  unfold bnd at hb'
  have hn12 := hT.2.2.1
  refine i_X11_tariffHeld ⟨hv, fun c => e_X11_tariffHeld_13 (e_X11_tariffHeld_14 (s_demandSuch0 (hn (by rw [c]; rfl)))), fun c => e_X11_tariffHeld_14 (s_demandSuch1 (rV_in ⟨hv, fun c1 => e_X11_tariffHeld_31 (e_X11_tariffHeld_32 (s_demand0 (h2 ?_))), fun c1 => e_X11_tariffHeld_32 (s_demand1 (rV_in ⟨hv, ?_⟩))⟩))⟩
  · rw [← Int32.toInt_inj, li_0] at c
    rw [← Int32.toInt_inj, li_1] at c1
    omega
  · have e : (xI X 9 a0.toNatClampNeg).toInt = 1 := by rw [c1]; rfl
    have b := hb1 e
    have b' := b
    unfold bnd at b'
    obtain ⟨d, hd, -⟩ := rlT_get hT b
    refine ⟨vp_in_iff.mpr ⟨b'.1, by omega⟩, ?_⟩
    rw [hd.1]
    exact h1 d e b hd
theorem areWhole_loop {q : Nat} (hs : F 11 2 = nI q) (h40 : q ≤ 40) (h1 : (∀ j, j < q → ¬ F 12 j = 0) → K (some (vI 1)) (S, F, J, R, nn)) (h0 : (∃ j, j < q ∧ F 12 j = 0) → K (some (vI 0)) (S, F, J, R, nn)) :
    ∀ r i : Nat, i + r = q → (∀ j, j < i → ¬ F 12 j = 0) → r_X9_areWhole tb0 K KX 2 [some (vR (some 11)), some (vI (nI i))] [] (S, F, J, R, nn) 0 0
  | 0, i, hi, h => by
    have e : i = q := by omega
    subst e
    refine e_X9_areWhole_2 ⟨fun _ => e_X9_areWhole_27 ⟨Or.inr rfl, h1 h⟩, fun c => absurd ?_ c⟩
    show F 11 2 ≤ nI i
    rw [hs]; exact nI_le (Nat.le_refl _) (by omega)
  | r + 1, i, hi, h => by
    refine e_X9_areWhole_2 ⟨fun c => ?_, fun _ => ⟨vp_in_nI (by omega) (by decide), ?_⟩⟩
    · have c' : F 11 2 ≤ nI i := c
      rw [hs] at c'; exact absurd c' (nI_ge (by omega) (by omega))
    · rw [nI_clamp (by omega)]
      refine ⟨fun c => e_X9_areWhole_21 ?_, fun c => ⟨Or.inl rfl, h0 ⟨i, by omega, c⟩⟩⟩
      rw [nI_1]
      exact areWhole_loop hs h40 h1 h0 r (i + 1) (by omega) (lt_s h c)
theorem s_areWhole {q : Nat} (hs : F 11 2 = nI q) (h40 : q ≤ 40) (h1 : (∀ j, j < q → ¬ F 12 j = 0) → K (some (vI 1)) (S, F, J, R, nn)) (h0 : (∃ j, j < q ∧ F 12 j = 0) → K (some (vI 0)) (S, F, J, R, nn)) : w_X9_areWhole tb0 [vR (some 11)] (S, F, J, R, nn) K KX :=
  i_X9_areWhole (areWhole_loop hs h40 h1 h0 q 0 (by omega) (fun j hj => absurd hj (Nat.not_lt_zero _)))
/-- a row of 24 ints is filled -/
theorem fill24_loop {b : Nat} (h4 : 4 ≤ b) (hsh : ∀ I', shp tb0 (S, I', J, R, nn) b = (1, 24)) (hK : ∀ g : Nat → Int32, (∀ j, j < 24 → g j = 0) → K none (S, u1 F b g, J, R, nn)) :
    ∀ (r i : Nat) (g : Nat → Int32), i + r = 24 → (∀ j, j < i → g j = 0) → r_J7_fill_53178 tb0 K KX 5 [some (vR (some b)), some (vI 0), some (vI (nI i)), some (vI (nI 24))] [] (S, u1 F b g, J, R, nn) 0 0
  | 0, i, g, hi, hg => by
    have e : i = 24 := by omega
    subst e
    exact e_J7_fill_53178_5 ⟨fun _ => e_J7_fill_53178_20 (hK g hg), fun c => absurd (nI_le (a := 24) (Nat.le_refl _) (by decide)) c⟩
  | r + 1, i, g, hi, hg => by
    refine e_J7_fill_53178_5 ⟨fun c => absurd c (nI_ge (a := i) (b := 24) (by omega) (by decide)), fun _ => ?_⟩
    rw [hsh]
    refine gd_in ⟨h4, rfl⟩ ⟨vp_in_nI (by omega) (by decide), ?_⟩
    rw [nI_1, nI_clamp (by omega)]
    show r_J7_fill_53178 tb0 K KX 5 _ [] (S, u2 (u1 F b g) b i 0, J, R, nn) 0 0
    rw [u2_u1]
    refine fill24_loop h4 hsh hK r (i + 1) _ (by omega) (fun j hj => ?_)
    by_cases e : j = i
    · subst e; rw [stf_at]
    · rw [stf_ne _ _ e]; exact hg j (by omega)
theorem s_fill24 {b : Nat} (h4 : 4 ≤ b) (hsh : ∀ I', shp tb0 (S, I', J, R, nn) b = (1, 24)) (hK : ∀ g : Nat → Int32, (∀ j, j < 24 → g j = 0) → K none (S, u1 F b g, J, R, nn)) : w_J7_fill_53178 tb0 [vR (some b), vI 0] (S, F, J, R, nn) K KX := by
  refine i_J7_fill_53178 ?_
  rw [hsh]
  refine gd_in (show (0 : Nat) < 1 ∧ (1 : Nat) < 6 from by decide) ?_
  have z := fill24_loop (K := K) (KX := KX) (S := S) (F := F) (J := J) (R := R) (nn := nn) h4 hsh hK 24 0 (F b) rfl (fun j hj => absurd hj (Nat.not_lt_zero _))
  rw [u1_self] at z
  exact z
theorem s_empty_16 (hK : ∀ X', Fr 16 (S, F, J, R, nn) X' → Pt 16 X' 0 1 → K none X') : w_X7_empty tb0 [vR (some 16)] (S, F, J, R, nn) K KX := by
  refine i_X7_empty_m16 (s_fill24 (by decide) (fun _ => rfl) (fun g hg => rV_in (s_fill24 (F := u1 F 17 g) (by decide) (fun _ => rfl) (fun g2 hg2 => rV_in ⟨by unfold vp_in; decide, hK _ ⟨rfl, rfl, rfl, rfl, fun i a b c d => ?_⟩ ?_⟩))))
  · show u2 (u2 (u1 (u1 F 17 g) 18 g2) 18 0 1) 16 3 2 i = F i
    rw [u2_ne _ _ _ a, u2_ne _ _ _ c, u1_ne _ _ c, u1_ne _ _ b]
  · have e2 : ∀ j, u2 (u2 (u1 (u1 F 17 g) 18 g2) 18 0 1) 16 3 2 18 j = stf g2 0 1 j := fun j => by
      rw [u2_ne _ _ _ (by decide), u2_u1, u1_at]
    have e1 : ∀ j, u2 (u2 (u1 (u1 F 17 g) 18 g2) 18 0 1) 16 3 2 17 j = g j := fun j => by
      rw [u2_ne _ _ _ (by decide), u2_ne _ _ _ (by decide), u1_ne _ _ (by decide), u1_at]
    have z1 : ∀ j, j < 24 → j ≠ 0 → stf g2 0 1 j = 0 := fun j hj h => by rw [stf_ne _ _ h]; exact hg2 j hj
    refine ⟨2, by decide, by decide, rfl, fun j hj => ?_, fun j hj => ?_, fun j a b => ⟨?_, ?_⟩, ?_, ?_, by decide, by decide, by decide⟩
    · show 0 ≤ (u2 (u2 (u1 (u1 F 17 g) 18 g2) 18 0 1) 16 3 2 17 j).toInt ∧ (u2 (u2 (u1 (u1 F 17 g) 18 g2) 18 0 1) 16 3 2 17 j).toInt < _
      rw [e1, hg j hj]; decide
    · show 0 ≤ (u2 (u2 (u1 (u1 F 17 g) 18 g2) 18 0 1) 16 3 2 18 j).toInt ∧ (u2 (u2 (u1 (u1 F 17 g) 18 g2) 18 0 1) 16 3 2 18 j).toInt < _
      rw [e2]
      by_cases h : j = 0
      · subst h; rw [stf_at]; decide
      · rw [z1 j hj h]; decide
    · show u2 (u2 (u1 (u1 F 17 g) 18 g2) 18 0 1) 16 3 2 17 j = 0
      rw [e1]; exact hg j b
    · show u2 (u2 (u1 (u1 F 17 g) 18 g2) 18 0 1) 16 3 2 18 j = 0
      rw [e2]; exact z1 j b (by omega)
    · show lv (fun j => u2 (u2 (u1 (u1 F 17 g) 18 g2) 18 0 1) 16 3 2 17 j) 2 = 0
      rw [lv, lv, lv, e1, e1, hg 0 (by decide), hg 1 (by decide)]; decide
    · show lv (fun j => u2 (u2 (u1 (u1 F 17 g) 18 g2) 18 0 1) 16 3 2 18 j) 2 = 1
      rw [lv, lv, lv, e2, e2, stf_at, z1 1 (by decide) (by decide)]; decide
theorem s_empty_30 (hK : ∀ X', Fr 30 (S, F, J, R, nn) X' → Pt 30 X' 0 1 → K none X') : w_X7_empty tb0 [vR (some 30)] (S, F, J, R, nn) K KX := by
  refine i_X7_empty_m30 (s_fill24 (by decide) (fun _ => rfl) (fun g hg => rV_in (s_fill24 (F := u1 F 31 g) (by decide) (fun _ => rfl) (fun g2 hg2 => rV_in ⟨by unfold vp_in; decide, hK _ ⟨rfl, rfl, rfl, rfl, fun i a b c d => ?_⟩ ?_⟩))))
  · show u2 (u2 (u1 (u1 F 31 g) 32 g2) 32 0 1) 30 3 2 i = F i
    rw [u2_ne _ _ _ a, u2_ne _ _ _ c, u1_ne _ _ c, u1_ne _ _ b]
  · have e2 : ∀ j, u2 (u2 (u1 (u1 F 31 g) 32 g2) 32 0 1) 30 3 2 32 j = stf g2 0 1 j := fun j => by
      rw [u2_ne _ _ _ (by decide), u2_u1, u1_at]
    have e1 : ∀ j, u2 (u2 (u1 (u1 F 31 g) 32 g2) 32 0 1) 30 3 2 31 j = g j := fun j => by
      rw [u2_ne _ _ _ (by decide), u2_ne _ _ _ (by decide), u1_ne _ _ (by decide), u1_at]
    have z1 : ∀ j, j < 24 → j ≠ 0 → stf g2 0 1 j = 0 := fun j hj h => by rw [stf_ne _ _ h]; exact hg2 j hj
    refine ⟨2, by decide, by decide, rfl, fun j hj => ?_, fun j hj => ?_, fun j a b => ⟨?_, ?_⟩, ?_, ?_, by decide, by decide, by decide⟩
    · show 0 ≤ (u2 (u2 (u1 (u1 F 31 g) 32 g2) 32 0 1) 30 3 2 31 j).toInt ∧ (u2 (u2 (u1 (u1 F 31 g) 32 g2) 32 0 1) 30 3 2 31 j).toInt < _
      rw [e1, hg j hj]; decide
    · show 0 ≤ (u2 (u2 (u1 (u1 F 31 g) 32 g2) 32 0 1) 30 3 2 32 j).toInt ∧ (u2 (u2 (u1 (u1 F 31 g) 32 g2) 32 0 1) 30 3 2 32 j).toInt < _
      rw [e2]
      by_cases h : j = 0
      · subst h; rw [stf_at]; decide
      · rw [z1 j hj h]; decide
    · show u2 (u2 (u1 (u1 F 31 g) 32 g2) 32 0 1) 30 3 2 31 j = 0
      rw [e1]; exact hg j b
    · show u2 (u2 (u1 (u1 F 31 g) 32 g2) 32 0 1) 30 3 2 32 j = 0
      rw [e2]; exact z1 j b (by omega)
    · show lv (fun j => u2 (u2 (u1 (u1 F 31 g) 32 g2) 32 0 1) 30 3 2 31 j) 2 = 0
      rw [lv, lv, lv, e1, e1, hg 0 (by decide), hg 1 (by decide)]; decide
    · show lv (fun j => u2 (u2 (u1 (u1 F 31 g) 32 g2) 32 0 1) 30 3 2 32 j) 2 = 1
      rw [lv, lv, lv, e2, e2, stf_at, z1 1 (by decide) (by decide)]; decide
theorem s_empty_38 (hK : ∀ X', Fr 38 (S, F, J, R, nn) X' → Pt 38 X' 0 1 → K none X') : w_X7_empty tb0 [vR (some 38)] (S, F, J, R, nn) K KX := by
  refine i_X7_empty_m38 (s_fill24 (by decide) (fun _ => rfl) (fun g hg => rV_in (s_fill24 (F := u1 F 39 g) (by decide) (fun _ => rfl) (fun g2 hg2 => rV_in ⟨by unfold vp_in; decide, hK _ ⟨rfl, rfl, rfl, rfl, fun i a b c d => ?_⟩ ?_⟩))))
  · show u2 (u2 (u1 (u1 F 39 g) 40 g2) 40 0 1) 38 3 2 i = F i
    rw [u2_ne _ _ _ a, u2_ne _ _ _ c, u1_ne _ _ c, u1_ne _ _ b]
  · have e2 : ∀ j, u2 (u2 (u1 (u1 F 39 g) 40 g2) 40 0 1) 38 3 2 40 j = stf g2 0 1 j := fun j => by
      rw [u2_ne _ _ _ (by decide), u2_u1, u1_at]
    have e1 : ∀ j, u2 (u2 (u1 (u1 F 39 g) 40 g2) 40 0 1) 38 3 2 39 j = g j := fun j => by
      rw [u2_ne _ _ _ (by decide), u2_ne _ _ _ (by decide), u1_ne _ _ (by decide), u1_at]
    have z1 : ∀ j, j < 24 → j ≠ 0 → stf g2 0 1 j = 0 := fun j hj h => by rw [stf_ne _ _ h]; exact hg2 j hj
    refine ⟨2, by decide, by decide, rfl, fun j hj => ?_, fun j hj => ?_, fun j a b => ⟨?_, ?_⟩, ?_, ?_, by decide, by decide, by decide⟩
    · show 0 ≤ (u2 (u2 (u1 (u1 F 39 g) 40 g2) 40 0 1) 38 3 2 39 j).toInt ∧ (u2 (u2 (u1 (u1 F 39 g) 40 g2) 40 0 1) 38 3 2 39 j).toInt < _
      rw [e1, hg j hj]; decide
    · show 0 ≤ (u2 (u2 (u1 (u1 F 39 g) 40 g2) 40 0 1) 38 3 2 40 j).toInt ∧ (u2 (u2 (u1 (u1 F 39 g) 40 g2) 40 0 1) 38 3 2 40 j).toInt < _
      rw [e2]
      by_cases h : j = 0
      · subst h; rw [stf_at]; decide
      · rw [z1 j hj h]; decide
    · show u2 (u2 (u1 (u1 F 39 g) 40 g2) 40 0 1) 38 3 2 39 j = 0
      rw [e1]; exact hg j b
    · show u2 (u2 (u1 (u1 F 39 g) 40 g2) 40 0 1) 38 3 2 40 j = 0
      rw [e2]; exact z1 j b (by omega)
    · show lv (fun j => u2 (u2 (u1 (u1 F 39 g) 40 g2) 40 0 1) 38 3 2 39 j) 2 = 0
      rw [lv, lv, lv, e1, e1, hg 0 (by decide), hg 1 (by decide)]; decide
    · show lv (fun j => u2 (u2 (u1 (u1 F 39 g) 40 g2) 40 0 1) 38 3 2 40 j) 2 = 1
      rw [lv, lv, lv, e2, e2, stf_at, z1 1 (by decide) (by decide)]; decide
end Share
