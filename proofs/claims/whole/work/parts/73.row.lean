/-! row -/
theorem u1_ap {β : Type} (f : Nat → β) (i a : Nat) (g : β) : u1 f i g a = if a = i then g else f a := rfl
section Row
variable {S : Nat → Nat × Nat} {F : Nat → Nat → Int32} {J : Nat → Nat → Int64} {R : Nat → Nat → Option Nat} {nn : Nat} {K : Option AV → AX → Prop} {KX : String → AX → Prop}
theorem nar0 : vp_nar .short 0 = 0 := by decide
theorem fill_loop {f e : Nat} (he : e ≤ 3840) (hK : ∀ g : Nat → Int32, (∀ j, g j = if f ≤ j ∧ j < e then 0 else F 6 j) → K none (S, u1 F 6 g, J, R, nn)) :
    ∀ (r i : Nat) (g : Nat → Int32), i + r = e → f ≤ i → (∀ j, g j = if f ≤ j ∧ j < i then 0 else F 6 j) → r_J7_fill_d734e tb0 K KX 10 [some (vR (some 6)), some (vI (nI f)), some (vI (nI e)), some (vI 0), some (vI (nI i))] [] (S, u1 F 6 g, J, R, nn) 0 0
  | 0, i, g, hi, hf, hg => by
    have e' : i = e := by omega
    subst e'
    exact e_J7_fill_d734e_10 ⟨fun _ => e_J7_fill_d734e_27 (hK g hg), fun c => absurd (nI_le (Nat.le_refl _) (by omega)) c⟩
  | r + 1, i, g, hi, hf, hg => by
    refine e_J7_fill_d734e_10 ⟨fun c => absurd c (nI_ge (by omega) (by omega)), fun _ => gd_in ⟨by decide, rfl⟩ ⟨vp_in_nI (n := i) (N := 3840) (by omega) (by decide), ?_⟩⟩
    rw [nI_1, nI_clamp (by omega), nar0]
    show r_J7_fill_d734e tb0 K KX 10 _ [] (S, u2 (u1 F 6 g) 6 i 0, J, R, nn) 0 0
    rw [u2_u1]
    refine fill_loop he hK r (i + 1) _ (by omega) (by omega) (fun j => ?_)
    by_cases h : j = i
    · subst h; rw [stf_at, if_pos ⟨hf, by omega⟩]
    · rw [stf_ne _ _ h, hg j]
      by_cases h2 : f ≤ j ∧ j < i
      · rw [if_pos h2, if_pos ⟨h2.1, by omega⟩]
      · rw [if_neg h2, if_neg (by omega)]
theorem s_lay {a0 a1 : Int32} (h0 : 0 ≤ a0.toInt) (h64 : a0.toInt < 64) (hK : ∀ g : Nat → Int32, (∀ j, g j = if 60 * a0.toNatClampNeg ≤ j ∧ j < 60 * a0.toNatClampNeg + 60 then 0 else F 6 j) → K none (S, u2 (u1 F 6 g) 7 a0.toNatClampNeg a1, J, R, nn)) : w_X8_lay tb0 [vR (some 5), vI a0, vI a1] (S, F, J, R, nn) K KX := by
  have hc := clp h0
  have ha : a0 = nI a0.toNatClampNeg := nI_ofI h0
  have e1 : a0 * 60 = nI (60 * a0.toNatClampNeg) := by
    conv => lhs; rw [ha]
    rw [show (60 : Int32) = nI 60 from rfl, pk_mul, Nat.mul_comm]
  have e2 : (a0 + 1) * 60 = nI (60 * a0.toNatClampNeg + 60) := by
    conv => lhs; rw [ha]
    rw [nI_1, show (60 : Int32) = nI 60 from rfl, pk_mul]
    congr 1; omega
  refine i_X8_lay ?_
  rw [e1, e2]
  refine i_J7_fill_d734e (gd_in (show (0 : Nat) < 3 ∧ (3 : Nat) < 6 from by decide) (i_J7_rangeCheck_23922 ⟨fun _ => e_J7_rangeCheck_23922_46 ⟨fun _ => e_J7_rangeCheck_23922_59 ⟨fun _ => e_J7_rangeCheck_23922_73 (rV_in ?_), fun c => absurd (nI_le (a := 60 * a0.toNatClampNeg + 60) (b := 3840) (by omega) (by decide)) c⟩, fun c => absurd (nI_pos' (by omega)) c⟩, fun c => absurd (nI_le (by omega) (by omega)) c⟩))
  have z := fill_loop (K := fun v2 X1 => rV v2 (vp_in a0 64 ∧ (K none (xS X1, u2 (xI X1) 7 a0.toNatClampNeg a1, xJ X1, xR X1, xN X1)))) (KX := KX) (S := S) (F := F) (J := J) (R := R) (nn := nn) (f := 60 * a0.toNatClampNeg) (e := 60 * a0.toNatClampNeg + 60) (by omega) (fun g hg => rV_in ⟨vp_in_iff.mpr ⟨h0, h64⟩, hK g hg⟩) 60 (60 * a0.toNatClampNeg) (F 6) (by omega) (Nat.le_refl _) (fun j => by rw [if_neg (by omega)])
  rw [u1_self] at z
  exact z
theorem mrow_loop {r0 : Nat} (hr : r0 < 64) {l2 l3 : Int32} (hK : ∀ g : Nat → Int32, (∀ j, g j = if 60 * r0 ≤ j ∧ j < 60 * r0 + 60 then 0 else F 44 j) → r_X12_row tb0 K KX 91 [some (vR (some 42)), some (vI (nI r0)), some (vI l2), some (vI l3), some (vI (nI 60))] [] (S, u1 F 44 g, J, R, nn) 0 0) :
    ∀ (r i : Nat) (g : Nat → Int32), i + r = 60 → (∀ j, g j = if 60 * r0 ≤ j ∧ j < 60 * r0 + i then 0 else F 44 j) → r_X12_row tb0 K KX 65 [some (vR (some 42)), some (vI (nI r0)), some (vI l2), some (vI l3), some (vI (nI i))] [] (S, u1 F 44 g, J, R, nn) 0 0
  | 0, i, g, hi, hg => by
    have e' : i = 60 := by omega
    subst e'
    exact e_X12_row_65 ⟨fun _ => hK g hg, fun c => absurd (nI_le (a := 60) (Nat.le_refl _) (by decide)) c⟩
  | r + 1, i, g, hi, hg => by
    have ei : (60 : Int32) * nI r0 + nI i = nI (60 * r0 + i) := by rw [show (60 : Int32) = nI 60 from rfl, pk_mul, nI_add]
    refine e_X12_row_65 ⟨fun c => absurd c (nI_ge (a := i) (b := 60) (by omega) (by decide)), fun _ => ?_⟩
    rw [ei, nI_1, nI_clamp (by omega)]
    refine ⟨vp_in_nI (by omega) (by decide), ?_⟩
    show r_X12_row tb0 K KX 65 _ [] (S, u2 (u1 F 44 g) 44 (60 * r0 + i) 0, J, R, nn) 0 0
    rw [u2_u1]
    refine mrow_loop hr hK r (i + 1) _ (by omega) (fun j => ?_)
    by_cases h : j = 60 * r0 + i
    · subst h; rw [stf_at, if_pos ⟨by omega, by omega⟩]
    · rw [stf_ne _ _ h, hg j]
      by_cases h2 : 60 * r0 ≤ j ∧ j < 60 * r0 + i
      · rw [if_pos h2, if_pos ⟨h2.1, by omega⟩]
      · rw [if_neg h2, if_neg (by omega)]
theorem x_row65 {l1 l2 l3 : Int32} (h0 : 0 ≤ l1.toInt) (h64 : l1.toInt < 64) (hK : ∀ g : Nat → Int32, (∀ j, g j = if 60 * l1.toNatClampNeg ≤ j ∧ j < 60 * l1.toNatClampNeg + 60 then 0 else F 44 j) → (l3 = 0 ∨ l3 = 1) ∧ K (some (vI l3)) (S, u1 F 44 g, J, R, nn)) : r_X12_row tb0 K KX 65 [some (vR (some 42)), some (vI l1), some (vI l2), some (vI l3), some (vI 0)] [] (S, F, J, R, nn) 0 0 := by
  have hc := clp h0
  have ha : l1 = nI l1.toNatClampNeg := nI_ofI h0
  have z := mrow_loop (K := K) (KX := KX) (S := S) (F := F) (J := J) (R := R) (nn := nn) (r0 := l1.toNatClampNeg) (l2 := l2) (l3 := l3) (by omega) (fun g hg => e_X12_row_91 (hK g hg)) 60 0 (F 44) rfl (fun j => by rw [if_neg (by omega)])
  rw [u1_self, ← ha] at z
  exact z
theorem rlR_row {X X' : AX} {r : Nat} {v : Int32} {g g' : Nat → Int32} (h : rlR X) (h6 : xI X' 6 = g) (h44 : xI X' 44 = g') (h7 : xI X' 7 = stf (xI X 7) r v) (h43 : xI X' 43 = stf (xI X 43) r v) (hg : ∀ j, g j = if 60 * r ≤ j ∧ j < 60 * r + 60 then 0 else xI X 6 j) (hg' : ∀ j, g' j = if 60 * r ≤ j ∧ j < 60 * r + 60 then 0 else xI X 44 j) (hv : bnd v (-1) 60) : rlR X' := by
  refine ⟨fun q hq => ?_, fun q hq => ?_⟩
  · rw [h7, h43]
    by_cases e : q = r
    · subst e; rw [stf_at, stf_at]; exact ⟨rfl, hv⟩
    · rw [stf_ne _ _ e, stf_ne _ _ e]; exact h.1 q hq
  · rw [h6, h44, hg q, hg' q]
    by_cases e : 60 * r ≤ q ∧ q < 60 * r + 60
    · rw [if_pos e, if_pos e]; exact ⟨rfl, (by decide : (0 : Int) ≤ (0 : Int32).toInt), (by decide : (0 : Int32).toInt ≤ 500)⟩
    · rw [if_neg e, if_neg e]; exact h.2 q hq
end Row
section Ops
variable {L : Nat} {xs : Nat → Int32} {t n s h l : Nat} {X : AX} {K : Option AV → AX → Prop} {KX : String → AX → Prop}
set_option maxHeartbeats 4000000 in
theorem op_row {a0 a1 : Int32} (H : Rel L xs t n s h l X) (hK : ∀ c X1, SamS X X1 → (∀ K2 KX2, (∀ b X4, FinB L xs t c b X4 → K2 (some (vI b)) X4) → w_X12_row tb0 [vR (some 42), vI a0, vI a1] X1 K2 KX2) → K (some (vI c)) X1) : w_L_row tb0 [vR (some 4), vI a0, vI a1, vR (some 91)] X K KX := by
  obtain ⟨hS, hW, hR, hT, hL, hE, hKk, hH, hC, hG⟩ := id H
  have hrw : 0 ≤ a0.toInt → a0.toInt < 64 → (xI X 43 a0.toNatClampNeg).toInt = (xI X 7 a0.toNatClampNeg).toInt := fun q1 q2 => by
    have := clp q1
    exact congrArg Int32.toInt (hR.1 a0.toNatClampNeg (by omega)).1
  simp only [Int32.lt_iff_toInt_lt, Int32.le_iff_toInt_le, ← Int32.toInt_inj, u2_ap, reduceIte, Nat.reduceEqDiff, xI, xJ, xR, xS, xN, li_0, li_1, li_2, li_3, li_4, li_5, li_6, li_7, li_8, li_9, li_10, li_11, li_12, li_13, li_14, li_15, li_16, li_20, li_34, li_40, li_50, li_59, li_60, li_64, li_99, li_100, li_200, li_500, li_1439, li_1440, li_3840, li_4000, li_10000, li_60000, li_1000000, li_m1, li_min, ck_0, ck_1, ck_2, ck_3, ck_4, u1_ap] at hrw
  repeat' (first
    | ((with_reducible refine s_lay (S := X.1) (F := X.2.1) (J := X.2.2.1) (R := X.2.2.2.1) (nn := X.2.2.2.2) ?_ ?_ (fun g hg => ?_)); (· omega); (· omega))
    | ((with_reducible refine x_row65 ?_ ?_ (fun g1 hg1 => ?_)); (· omega); (· omega))
    | with_reducible refine i_L_row ?_
    | with_reducible refine e_L_row_15 ?_
    | with_reducible refine e_L_row_16 ?_
    | with_reducible refine e_L_row_26 ?_
    | with_reducible refine e_L_row_22 ?_
    | with_reducible refine e_L_row_28 ?_
    | with_reducible refine i_X11_row ?_
    | with_reducible refine i_X8_isMissing ?_
    | with_reducible refine e_X8_isMissing_14 ?_
    | with_reducible refine e_X8_isMissing_15 ?_
    | with_reducible refine i_X12_row ?_
    | with_reducible refine e_X12_row_37 ?_
    | with_reducible refine e_X12_row_29 ?_
    | with_reducible refine e_X12_row_30 ?_
    | with_reducible refine e_X12_row_39 ?_
    | with_reducible refine e_X12_row_53 ?_
    | with_reducible refine e_X12_row_54 ?_
    | with_reducible refine e_X12_row_65 ?_
    | with_reducible refine e_X12_row_91 ?_
    | with_reducible refine i_X12_isRow ?_
    | with_reducible refine e_X12_isRow_15 ?_
    | with_reducible refine e_X12_isRow_16 ?_
    | with_reducible refine s_isFrom ?_ ?_
    | with_reducible refine s_demand1 ?_
    | with_reducible refine s_demand0 ?_
    | with_reducible refine s_demandSuch1 ?_
    | with_reducible refine s_demandSuch0 ?_
    | with_reducible refine s_demandState1 ?_
    | with_reducible refine s_demandState0 ?_
    | with_reducible refine s_demandPlace ?_ ?_
    | with_reducible refine s_refuse ?_ ?_
    | (with_reducible refine s_hired ?hb ?_ ?_; case hb => assumption)
    | with_reducible refine s_right1 ?_
    | with_reducible refine s_right0 (by decide) ?_
    | with_reducible refine s_thrown ?_
    | with_reducible refine rI_in ?_
    | with_reducible refine rV_in ?_
    | with_reducible refine rL_in ?_
    | with_reducible refine rR_in ?_
    | with_reducible refine ite_t rfl ?_
    | with_reducible refine ite_f (by decide) ?_
    | with_reducible refine gd_in (by decide) ?_
    | with_reducible refine or0_and ?_
    | with_reducible refine or1_and ?_
    | with_reducible refine br_t (by decide) ?_
    | with_reducible refine br_f (by decide) ?_
    | with_reducible refine br_t2 (by decide) ?_
    | with_reducible refine br_f2 (by decide) ?_
    | (with_reducible refine vin_and ?hv ?_; case hv => first | omega | (simp only [Int32.lt_iff_toInt_lt, Int32.le_iff_toInt_le, ← Int32.toInt_inj, u2_ap, reduceIte, Nat.reduceEqDiff, xI, xJ, xR, xS, xN, li_0, li_1, li_2, li_3, li_4, li_5, li_6, li_7, li_8, li_9, li_10, li_11, li_12, li_13, li_14, li_15, li_16, li_20, li_34, li_40, li_50, li_59, li_60, li_64, li_99, li_100, li_200, li_500, li_1439, li_1440, li_3840, li_4000, li_10000, li_60000, li_1000000, li_m1, li_min, ck_0, ck_1, ck_2, ck_3, ck_4, u1_ap] at * <;> omega))
    | (with_reducible refine ne_and ?hv ?_; case hv => decide)
    | (refine hK _ _ (SamS.mk rfl rfl) (fun K2 KX2 hK2 => ?_); try dsimp only [xI, xJ, xR, xS, xN])
    | (with_reducible refine hK2 _ _ ?_; try dsimp only [xI, xJ, xR, xS, xN])
    | exact fin_thr H (by assumption) _ (by decide)
    | exact finL_thr H (by assumption) _ (by decide)
    | exact finB_thr H (by assumption) (by decide)
    | ((with_reducible refine br_s (fun c => ?_) (fun c => ?_)) <;> (try simp only [Int32.lt_iff_toInt_lt, Int32.le_iff_toInt_le, ← Int32.toInt_inj, u2_ap, reduceIte, Nat.reduceEqDiff, xI, xJ, xR, xS, xN, li_0, li_1, li_2, li_3, li_4, li_5, li_6, li_7, li_8, li_9, li_10, li_11, li_12, li_13, li_14, li_15, li_16, li_20, li_34, li_40, li_50, li_59, li_60, li_64, li_99, li_100, li_200, li_500, li_1439, li_1440, li_3840, li_4000, li_10000, li_60000, li_1000000, li_m1, li_min, ck_0, ck_1, ck_2, ck_3, ck_4, u1_ap] at c) <;> (try (exfalso; omega)))
    | ((with_reducible refine br_s2 (fun c => ?_) (fun c => ?_)) <;> (try simp only [Int32.lt_iff_toInt_lt, Int32.le_iff_toInt_le, ← Int32.toInt_inj, u2_ap, reduceIte, Nat.reduceEqDiff, xI, xJ, xR, xS, xN, li_0, li_1, li_2, li_3, li_4, li_5, li_6, li_7, li_8, li_9, li_10, li_11, li_12, li_13, li_14, li_15, li_16, li_20, li_34, li_40, li_50, li_59, li_60, li_64, li_99, li_100, li_200, li_500, li_1439, li_1440, li_3840, li_4000, li_10000, li_60000, li_1000000, li_m1, li_min, ck_0, ck_1, ck_2, ck_3, ck_4, u1_ap] at c) <;> (try (exfalso; omega)))
    | ((with_reducible intro c); (try simp only [Int32.lt_iff_toInt_lt, Int32.le_iff_toInt_le, ← Int32.toInt_inj, u2_ap, reduceIte, Nat.reduceEqDiff, xI, xJ, xR, xS, xN, li_0, li_1, li_2, li_3, li_4, li_5, li_6, li_7, li_8, li_9, li_10, li_11, li_12, li_13, li_14, li_15, li_16, li_20, li_34, li_40, li_50, li_59, li_60, li_64, li_99, li_100, li_200, li_500, li_1439, li_1440, li_3840, li_4000, li_10000, li_60000, li_1000000, li_m1, li_min, ck_0, ck_1, ck_2, ck_3, ck_4, u1_ap] at c) <;> (try (exfalso; omega))))
  all_goals first
    | exact ⟨fin_of (n := n) (s := s) (h := h) (l := l) ⟨rlS_n (X := X) hS rfl rfl rfl rfl rfl (Nat.le_refl _), hW, rlR_row (X := X) (r := a0.toNatClampNeg) (v := a1) hR rfl rfl rfl rfl hg hg1 ⟨by omega, by omega⟩, rlT_fr (X := X) (by repeat (first | exact fun _ _ => rfl | refine u2_hi (by decide) ?_ | refine u1_hi (by decide) ?_)) rfl rfl rfl rfl (Nat.le_refl _) rfl rfl hT, hL, hE, hKk, hH, rlC_fr (X := X) (by repeat (first | exact fun _ _ => rfl | refine u2_hi (by decide) ?_ | refine u1_hi (by decide) ?_)) rfl rfl rfl rfl rfl rfl rfl rfl (Nat.le_refl _) rfl hC, hG⟩ rfl rfl, Or.inl rfl⟩
    | exact ⟨fin_of (n := n) (s := s) (h := h) (l := l) ⟨rlS_n (X := X) hS rfl rfl rfl rfl rfl (Nat.le_refl _), hW, rlR_row (X := X) (r := a0.toNatClampNeg) (v := a1) hR rfl rfl rfl rfl hg hg1 ⟨by omega, by omega⟩, rlT_fr (X := X) (by repeat (first | exact fun _ _ => rfl | refine u2_hi (by decide) ?_ | refine u1_hi (by decide) ?_)) rfl rfl rfl rfl (Nat.le_refl _) rfl rfl hT, hL, hE, hKk, hH, rlC_fr (X := X) (by repeat (first | exact fun _ _ => rfl | refine u2_hi (by decide) ?_ | refine u1_hi (by decide) ?_)) rfl rfl rfl rfl rfl rfl rfl rfl (Nat.le_refl _) rfl hC, hG⟩ rfl rfl, Or.inr rfl⟩
end Ops
