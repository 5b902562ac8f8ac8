/-! leg -/
section Ops
variable {L : Nat} {xs : Nat → Int32} {t n s h l : Nat} {X : AX} {K : Option AV → AX → Prop} {KX : String → AX → Prop}
theorem leg_loop {a0 a1 : Int32} {l : Nat} (ha : 1 ≤ a1.toInt ∧ a1.toInt ≤ 3840) (hl : xI X 42 25 = nI l) (h20 : l ≤ 20) (hs : ∀ j, j < l → 0 ≤ (xI X 57 j).toInt ∧ (xI X 57 j).toInt ≤ 3840) (hk : ∀ v : Int32, v.toInt = a1.toInt + sumI (xI X 57) l → r_X12_leg tb0 K KX 72 [some (vR (some 42)), some (vI a0), some (vI a1), some (vI v), some (vI (nI l))] [] X 0 0) :
    ∀ (r i : Nat) (v : Int32), i + r = l → v.toInt = a1.toInt + sumI (xI X 57) i → r_X12_leg tb0 K KX 47 [some (vR (some 42)), some (vI a0), some (vI a1), some (vI v), some (vI (nI i))] [] X 0 0
  | 0, i, v, hi, hv => by
    have e : i = l := by omega
    subst e
    exact e_X12_leg_47 ⟨fun _ => hk v hv, fun c => absurd (by rw [hl]; exact nI_le (Nat.le_refl _) (by omega)) c⟩
  | r + 1, i, v, hi, hv => by
    refine e_X12_leg_47 ⟨fun c => ?_, fun _ => ⟨vp_in_nI (by omega) (by decide), ?_⟩⟩
    · rw [hl] at c; exact absurd c (nI_ge (by omega) (by omega))
    · rw [nI_1, nI_clamp (by omega)]
      have h1 := sumI_rng (f := xI X 57) (n := i) (fun j hj => hs j (by omega))
      have h2 := hs i (by omega)
      refine leg_loop ha hl h20 hs hk r (i + 1) _ (by omega) ?_
      rw [sumI, n_add] <;> omega
theorem x_leg42 {a0 a1 : Int32} {l : Nat} (ha : 1 ≤ a1.toInt ∧ a1.toInt ≤ 3840) (hl : xI X 42 25 = nI l) (h20 : l ≤ 20) (hs : ∀ j, j < l → 0 ≤ (xI X 57 j).toInt ∧ (xI X 57 j).toInt ≤ 3840) (hk : ∀ v : Int32, v.toInt = a1.toInt + sumI (xI X 57) l → r_X12_leg tb0 K KX 72 [some (vR (some 42)), some (vI a0), some (vI a1), some (vI v), some (vI (nI l))] [] X 0 0) : r_X12_leg tb0 K KX 42 [some (vR (some 42)), some (vI a0), some (vI a1), none, none] [] X 0 0 :=
  e_X12_leg_42 (leg_loop ha hl h20 hs hk l 0 a1 (Nat.zero_add _) (by show _ = _ + (0 : Int); omega))
set_option maxHeartbeats 4000000 in
theorem op_leg {a0 a1 : Int32} (ht : t < 600) (H : Rel L xs t n s h l X) (hK : ∀ c X1, SamS X X1 → (∀ K2 KX2, (∀ b X4, FinI L xs t c b X4 → K2 (some (vI b)) X4) → w_X12_leg tb0 [vR (some 42), vI a0, vI a1] X1 K2 KX2) → K (some (vI c)) X1) : w_L_leg tb0 [vR (some 4), vI a0, vI a1, vR (some 91)] X K KX := by
  obtain ⟨hS, hW, hR, hT, hL, hE, hKk, hH, hC, hG⟩ := id H
  have hl1 : (xI X 34 2).toInt = l := by rw [hKk.1, nI_toInt (by have := hKk.2.2.1; omega)]
  have hl2 : (xI X 42 25).toInt = l := by rw [hKk.2.1, nI_toInt (by have := hKk.2.2.1; omega)]
  have hl20 := hKk.2.2.1
  have hjs := hKk.2.2.2.1
  have hsum : sumI (xI X 57) l = (xI X 34 3).toInt := by rw [hKk.2.2.2.2.1]; exact sumI_cong fun j hj => (hjs j hj).2.2.1
  have hs57 : ∀ j, j < l → 0 ≤ (xI X 57 j).toInt ∧ (xI X 57 j).toInt ≤ 3840 := fun j hj => by
    obtain ⟨-, -, e, b⟩ := hjs j hj
    rw [e]; exact ⟨by have := b.1; omega, b.2⟩
  have hs0 := (sumI_rng hs57).1
  have hle := hKk.2.2.2.2.2
  have hadd : 1 ≤ a1.toInt → a1.toInt ≤ 3840 → (xI X 34 3 + a1).toInt = (xI X 34 3).toInt + a1.toInt := fun q1 q2 => by rw [n_add] <;> omega
  have hsumx := hsum
  simp only [Int32.lt_iff_toInt_lt, Int32.le_iff_toInt_le, ← Int32.toInt_inj, u2_ap, reduceIte, Nat.reduceEqDiff, xI, xJ, xR, xS, xN, li_0, li_1, li_2, li_3, li_4, li_5, li_6, li_7, li_8, li_9, li_10, li_11, li_12, li_13, li_14, li_15, li_16, li_20, li_34, li_40, li_50, li_59, li_60, li_64, li_99, li_100, li_200, li_500, li_1439, li_1440, li_3840, li_4000, li_10000, li_60000, li_1000000, li_m1, li_min, ck_0, ck_1, ck_2, ck_3, ck_4] at hl1 hl2 hsumx hadd
  repeat' (first
    | with_reducible refine i_L_leg ?_
    | with_reducible refine e_L_leg_17 ?_
    | with_reducible refine e_L_leg_15 ?_
    | with_reducible refine i_X11_leg ?_
    | with_reducible refine e_X11_leg_26 ?_
    | with_reducible refine e_X11_leg_27 ?_
    | with_reducible refine e_X11_leg_57 ?_
    | with_reducible refine e_X11_leg_59 ?_
    | with_reducible refine i_X10_add ?_
    | with_reducible refine i_X12_leg ?_
    | with_reducible refine e_X12_leg_32 ?_
    | with_reducible refine e_X12_leg_33 ?_
    | with_reducible refine e_X12_leg_72 ?_
    | with_reducible refine e_X12_leg_88 ?_
    | with_reducible refine e_X12_leg_90 ?_
    | ((with_reducible refine x_leg42 (l := l) ?_ ?_ hl20 ?_ ?_); (· exact ⟨by omega, by omega⟩); (· exact hKk.2.1); (· exact hs57))
    | ((with_reducible intro v hv); replace hv : v.toInt = a1.toInt + sumI (X.2.1 57) l := hv)
    | with_reducible refine s_isFrom ?_ ?_
    | with_reducible refine s_demand1 ?_
    | with_reducible refine s_demand0 ?_
    | with_reducible refine s_demandSuch1 ?_
    | with_reducible refine s_demandSuch0 ?_
    | with_reducible refine s_demandState1 ?_
    | with_reducible refine s_demandState0 ?_
    | with_reducible refine s_demandPlace ?_ ?_
    | with_reducible refine s_refuse ?_ ?_
    | (with_reducible refine s_hired ?hb ?_ ?_; case hb => assumption)
    | with_reducible refine s_right1 ?_
    | with_reducible refine s_right0 (by decide) ?_
    | with_reducible refine s_thrown ?_
    | with_reducible refine rI_in ?_
    | with_reducible refine rV_in ?_
    | with_reducible refine rL_in ?_
    | with_reducible refine rR_in ?_
    | with_reducible refine ite_t rfl ?_
    | with_reducible refine ite_f (by decide) ?_
    | with_reducible refine gd_in (by decide) ?_
    | with_reducible refine or0_and ?_
    | with_reducible refine or1_and ?_
    | with_reducible refine br_t (by decide) ?_
    | with_reducible refine br_f (by decide) ?_
    | with_reducible refine br_t2 (by decide) ?_
    | with_reducible refine br_f2 (by decide) ?_
    | (with_reducible refine vin_and ?hv ?_; case hv => first | omega | (simp only [Int32.lt_iff_toInt_lt, Int32.le_iff_toInt_le, ← Int32.toInt_inj, u2_ap, reduceIte, Nat.reduceEqDiff, xI, xJ, xR, xS, xN, li_0, li_1, li_2, li_3, li_4, li_5, li_6, li_7, li_8, li_9, li_10, li_11, li_12, li_13, li_14, li_15, li_16, li_20, li_34, li_40, li_50, li_59, li_60, li_64, li_99, li_100, li_200, li_500, li_1439, li_1440, li_3840, li_4000, li_10000, li_60000, li_1000000, li_m1, li_min, ck_0, ck_1, ck_2, ck_3, ck_4] at * <;> omega))
    | (with_reducible refine ne_and ?hv ?_; case hv => decide)
    | (refine hK _ _ (SamS.mk rfl rfl) (fun K2 KX2 hK2 => ?_); try dsimp only [xI, xJ, xR, xS, xN])
    | (with_reducible refine hK2 _ _ ?_; try dsimp only [xI, xJ, xR, xS, xN])
    | exact fin_thr H (by assumption) _ (by decide)
    | exact finL_thr H (by assumption) _ (by decide)
    | exact finB_thr H (by assumption) (by decide)
    | ((with_reducible refine br_s (fun c => ?_) (fun c => ?_)) <;> (try simp only [Int32.lt_iff_toInt_lt, Int32.le_iff_toInt_le, ← Int32.toInt_inj, u2_ap, reduceIte, Nat.reduceEqDiff, xI, xJ, xR, xS, xN, li_0, li_1, li_2, li_3, li_4, li_5, li_6, li_7, li_8, li_9, li_10, li_11, li_12, li_13, li_14, li_15, li_16, li_20, li_34, li_40, li_50, li_59, li_60, li_64, li_99, li_100, li_200, li_500, li_1439, li_1440, li_3840, li_4000, li_10000, li_60000, li_1000000, li_m1, li_min, ck_0, ck_1, ck_2, ck_3, ck_4] at c) <;> (try (exfalso; omega)))
    | ((with_reducible refine br_s2 (fun c => ?_) (fun c => ?_)) <;> (try simp only [Int32.lt_iff_toInt_lt, Int32.le_iff_toInt_le, ← Int32.toInt_inj, u2_ap, reduceIte, Nat.reduceEqDiff, xI, xJ, xR, xS, xN, li_0, li_1, li_2, li_3, li_4, li_5, li_6, li_7, li_8, li_9, li_10, li_11, li_12, li_13, li_14, li_15, li_16, li_20, li_34, li_40, li_50, li_59, li_60, li_64, li_99, li_100, li_200, li_500, li_1439, li_1440, li_3840, li_4000, li_10000, li_60000, li_1000000, li_m1, li_min, ck_0, ck_1, ck_2, ck_3, ck_4] at c) <;> (try (exfalso; omega)))
    | ((with_reducible intro c); (try simp only [Int32.lt_iff_toInt_lt, Int32.le_iff_toInt_le, ← Int32.toInt_inj, u2_ap, reduceIte, Nat.reduceEqDiff, xI, xJ, xR, xS, xN, li_0, li_1, li_2, li_3, li_4, li_5, li_6, li_7, li_8, li_9, li_10, li_11, li_12, li_13, li_14, li_15, li_16, li_20, li_34, li_40, li_50, li_59, li_60, li_64, li_99, li_100, li_200, li_500, li_1439, li_1440, li_3840, li_4000, li_10000, li_60000, li_1000000, li_m1, li_min, ck_0, ck_1, ck_2, ck_3, ck_4] at c) <;> (try (exfalso; omega))))
  all_goals first
    | exact fin_read H rfl
    | skip
  have k1 : (xI X 34 2).toNatClampNeg = l := by rw [hKk.1, nI_clamp (by omega)]
  have k2 : (xI X 42 25).toNatClampNeg = l := by rw [hKk.2.1, nI_clamp (by omega)]
  have had : (xI X 34 3 + a1).toInt = (xI X 34 3).toInt + a1.toInt := hadd (by omega) (by omega)
  have hx3 : (xI X 34 3).toInt = (X.2.1 34 3).toInt := rfl
  refine ⟨⟨n, s, h, l + 1, ⟨rlS_n (X := X) hS rfl rfl rfl rfl rfl (Nat.le_refl _), hW, hR, rlT_fr (X := X) (by repeat (first | exact fun _ _ => rfl | refine u2_hi (by decide) ?_ | refine u1_hi (by decide) ?_)) rfl rfl rfl rfl (Nat.le_refl _) rfl rfl hT, hL, hE, ?_, rlH_up hH, rlC_fr (X := X) (by repeat (first | exact fun _ _ => rfl | refine u2_hi (by decide) ?_ | refine u1_hi (by decide) ?_)) rfl rfl rfl rfl rfl rfl rfl rfl (Nat.le_refl _) rfl hC, rlG_up hG⟩⟩, rfl, fun _ => ?_⟩
  · refine ⟨?_, ?_, by omega, fun j hj => ?_, ?_, ?_⟩
    · show xI X 34 2 + 1 = nI (l + 1)
      rw [hKk.1, nI_1]
    · show xI X 42 25 + 1 = nI (l + 1)
      rw [hKk.2.1, nI_1]
    · show stf (xI X 56) (xI X 42 25).toNatClampNeg a0 j = stf (xI X 35) (xI X 34 2).toNatClampNeg a0 j ∧ bnd (stf (xI X 35) (xI X 34 2).toNatClampNeg a0 j) 0 60000 ∧ stf (xI X 57) (xI X 42 25).toNatClampNeg a1 j = stf (xI X 36) (xI X 34 2).toNatClampNeg a1 j ∧ bnd (stf (xI X 36) (xI X 34 2).toNatClampNeg a1 j) 1 3840
      rw [k1, k2]
      by_cases e : j = l
      · subst e
        rw [stf_at, stf_at, stf_at, stf_at]
        exact ⟨rfl, ⟨by omega, by omega⟩, rfl, ⟨by omega, by omega⟩⟩
      · rw [stf_ne _ _ e, stf_ne _ _ e, stf_ne _ _ e, stf_ne _ _ e]
        exact hjs j (by omega)
    · show (xI X 34 3 + a1).toInt = sumI (stf (xI X 36) (xI X 34 2).toNatClampNeg a1) (l + 1)
      rw [k1, sumI, stf_at, sumI_cong (f := stf (xI X 36) l a1) (g := xI X 36) (fun j hj => stf_ne _ _ (by omega)), had, hKk.2.2.2.2.1]
    · show (xI X 34 3 + a1).toInt ≤ 3840
      omega
  · show (xI X 34 3 + a1).toInt64 = v.toInt64
    exact congrArg Int32.toInt64 (Int32.toInt_inj.mp (by omega))
end Ops
