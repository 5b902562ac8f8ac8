/-! kinds held -/
def kvF (s v : Int32) : Int32 := if s.toInt = 1 then v else if s.toInt = 2 then 5 else -1
section Held
variable {X : AX} {K : Option AV → AX → Prop} {KX : String → AX → Prop} {a0 : Int32} {n s : Nat}
theorem s_kindHeld (hT : rlT n X) (hL : rlL n s X) (h0 : 0 ≤ a0.toInt) (h12 : a0.toInt < 12) (h : K (some (vI (kvF (xI X 9 a0.toNatClampNeg) (xI X 45 (xI X 10 a0.toNatClampNeg).toNatClampNeg)))) X) : w_X11_kindHeld tb0 [vR (some 4), vI a0] X K KX := by
  have hc := clp h0
  obtain ⟨-, -, -, hb, -⟩ := hL a0.toNatClampNeg (by omega)
  refine i_X11_kindHeld ⟨vp_in_iff.mpr ⟨h0, h12⟩, fun c => e_X11_kindHeld_32 ?_, fun c => ⟨fun c1 => e_X11_kindHeld_47 ?_, fun c1 => e_X11_kindHeld_49 ?_⟩⟩
  · obtain ⟨d, ⟨t1, t2, t3, ⟨q, hq, t4, t5⟩, -⟩, u1, u2', -⟩ := rlT_get hT (hb c)
    have hn := hT.2.2.1
    have hx := hb c
    refine ⟨vp_in_iff.mpr ⟨h0, h12⟩, vp_in_iff.mpr ⟨hx.1, by have := hx.2; omega⟩, ?_⟩
    rw [t1]
    refine onS_in (s_dkind (q := q) (by rw [shp_hi t2, t5]) hq (rI_in ?_))
    unfold kvF at h
    rw [if_pos c, t4] at h
    exact h
  · unfold kvF at h
    rw [if_neg c, if_pos c1] at h
    exact h
  · unfold kvF at h
    rw [if_neg c, if_neg c1] at h
    exact h
theorem s_held (h0 : 0 ≤ a0.toInt) (h12 : a0.toInt < 12) (hs : 0 ≤ (xI X 47 a0.toNatClampNeg).toInt ∧ (xI X 47 a0.toNatClampNeg).toInt ≤ 2) (hn : (xI X 47 a0.toNatClampNeg).toInt = 1 → 0 ≤ (xI X 48 a0.toNatClampNeg).toInt ∧ (xI X 48 a0.toNatClampNeg).toInt < 12) (h : K (some (vI (kvF (xI X 47 a0.toNatClampNeg) (xI X 45 (xI X 48 a0.toNatClampNeg).toNatClampNeg)))) X) : w_X12_held tb0 [vR (some 42), vI a0] X K KX := by
  have hv := vp_in_iff.mpr (show 0 ≤ a0.toInt ∧ a0.toInt < (12 : Nat) from ⟨h0, h12⟩)
  unfold kvF at h
  refine i_X12_held ⟨hv, fun c => e_X12_held_13 ⟨hv, fun c1 => e_X12_held_27 ?_, fun c1 => e_X12_held_38 ?_⟩, fun c => e_X12_held_38 ?_⟩
  · have e : (xI X 47 a0.toNatClampNeg).toInt = 1 := by
      rw [← Int32.toInt_inj, li_0] at c
      rw [← Int32.toInt_inj, li_2] at c1
      omega
    rw [if_pos e] at h
    exact ⟨hv, vp_in_iff.mpr (hn e), e_X12_held_38 h⟩
  · rw [if_neg (by rw [c1, li_2]; decide), if_pos (by rw [c1]; decide)] at h
    exact h
  · rw [if_neg (by rw [c, li_0]; decide), if_neg (by rw [c, li_0]; decide)] at h
    exact h
theorem rlL_put {X' : AX} {r : Nat} {v w : Int32} (h : rlL n s X) (h9 : xI X' 9 = stf (xI X 9) r v) (h10 : xI X' 10 = stf (xI X 10) r w) (h47 : xI X' 47 = stf (xI X 47) r v) (h48 : xI X' 48 = stf (xI X 48) r w) (hv : bnd v 0 2) (h1 : v.toInt = 1 → bnd w 0 ((n : Int) - 1)) (h2 : v.toInt = 2 → bnd w 0 ((s : Int) - 1)) : rlL n s X' := fun j hj => by
  rw [h9, h10, h47, h48]
  by_cases e : j = r
  · subst e; rw [stf_at, stf_at, stf_at, stf_at]; exact ⟨rfl, rfl, hv, h1, h2⟩
  · rw [stf_ne _ _ e, stf_ne _ _ e, stf_ne _ _ e, stf_ne _ _ e]; exact h j hj
end Held
section Ops
variable {L : Nat} {xs : Nat → Int32} {t n s h l : Nat} {X : AX} {K : Option AV → AX → Prop} {KX : String → AX → Prop}
set_option maxHeartbeats 4000000 in
theorem op_kind {a0 : Int32} (H : Rel L xs t n s h l X) (hK : ∀ c X1, SamS X X1 → (∀ K2 KX2, (∀ b X4, FinI L xs t c b X4 → K2 (some (vI b)) X4) → w_X12_kind tb0 [vR (some 42), vI a0] X1 K2 KX2) → K (some (vI c)) X1) : w_L_kind tb0 [vR (some 4), vI a0, vR (some 91)] X K KX := by
  obtain ⟨hS, hW, hR, hT, hL, hE, hKk, hH, hC, hG⟩ := id H
  have hslf : 0 ≤ a0.toInt → a0.toInt < 12 → xI X 47 a0.toNatClampNeg = xI X 9 a0.toNatClampNeg ∧ xI X 48 a0.toNatClampNeg = xI X 10 a0.toNatClampNeg ∧ bnd (xI X 9 a0.toNatClampNeg) 0 2 ∧ ((xI X 9 a0.toNatClampNeg).toInt = 1 → bnd (xI X 10 a0.toNatClampNeg) 0 ((n : Int) - 1)) := fun q1 q2 => by
    have := clp q1
    obtain ⟨e1, e2, e3, e4, -⟩ := hL a0.toNatClampNeg (by omega)
    exact ⟨e1, e2, e3, e4⟩
  have hn12 := hT.2.2.1
  have hkv : 0 ≤ a0.toInt → a0.toInt < 12 → kvF (xI X 9 a0.toNatClampNeg) (xI X 45 (xI X 10 a0.toNatClampNeg).toNatClampNeg) = kvF (xI X 47 a0.toNatClampNeg) (xI X 45 (xI X 48 a0.toNatClampNeg).toNatClampNeg) := fun q1 q2 => by
    obtain ⟨e1, e2, -⟩ := hslf q1 q2
    rw [e1, e2]
  have hms : 0 ≤ a0.toInt → a0.toInt < 12 → (0 ≤ (xI X 47 a0.toNatClampNeg).toInt ∧ (xI X 47 a0.toNatClampNeg).toInt ≤ 2) ∧ ((xI X 47 a0.toNatClampNeg).toInt = 1 → 0 ≤ (xI X 48 a0.toNatClampNeg).toInt ∧ (xI X 48 a0.toNatClampNeg).toInt < 12) := fun q1 q2 => by
    obtain ⟨e1, e2, e3, e4⟩ := hslf q1 q2
    rw [e1, e2]
    exact ⟨e3, fun z => ⟨(e4 z).1, by have := (e4 z).2; omega⟩⟩
  repeat' (first
    | with_reducible refine i_L_kind ?_
    | with_reducible refine e_L_kind_15 ?_
    | with_reducible refine e_L_kind_13 ?_
    | with_reducible refine i_X11_kind ?_
    | with_reducible refine i_X12_kind ?_
    | with_reducible refine e_X12_kind_22 ?_
    | with_reducible refine e_X12_kind_23 ?_
    | with_reducible refine i_X12_isSlot ?_
    | with_reducible refine e_X12_isSlot_15 ?_
    | with_reducible refine e_X12_isSlot_16 ?_
    | ((with_reducible refine s_kindHeld (n := n) (s := s) ?_ ?_ ?_ ?_ ?_); (· exact hT); (· exact hL); (· omega); (· omega))
    | ((with_reducible refine s_held ?_ ?_ ?_ ?_ ?_); (· omega); (· omega); (· exact (hms (by omega) (by omega)).1); (· exact (hms (by omega) (by omega)).2))
    | exact fin_read H (congrArg Int32.toInt64 (hkv (by omega) (by omega)))
    | with_reducible refine s_isFrom ?_ ?_
    | with_reducible refine s_demand1 ?_
    | with_reducible refine s_demand0 ?_
    | with_reducible refine s_demandSuch1 ?_
    | with_reducible refine s_demandSuch0 ?_
    | with_reducible refine s_demandState1 ?_
    | with_reducible refine s_demandState0 ?_
    | with_reducible refine s_demandPlace ?_ ?_
    | with_reducible refine s_refuse ?_ ?_
    | (with_reducible refine s_hired ?hb ?_ ?_; case hb => assumption)
    | with_reducible refine s_right1 ?_
    | with_reducible refine s_right0 (by decide) ?_
    | with_reducible refine s_thrown ?_
    | with_reducible refine rI_in ?_
    | with_reducible refine rV_in ?_
    | with_reducible refine rL_in ?_
    | with_reducible refine rR_in ?_
    | with_reducible refine ite_t rfl ?_
    | with_reducible refine ite_f (by decide) ?_
    | with_reducible refine gd_in (by decide) ?_
    | with_reducible refine or0_and ?_
    | with_reducible refine or1_and ?_
    | with_reducible refine br_t (by decide) ?_
    | with_reducible refine br_f (by decide) ?_
    | with_reducible refine br_t2 (by decide) ?_
    | with_reducible refine br_f2 (by decide) ?_
    | (with_reducible refine vin_and ?hv ?_; case hv => first | omega | (simp only [Int32.lt_iff_toInt_lt, Int32.le_iff_toInt_le, ← Int32.toInt_inj, u2_ap, reduceIte, Nat.reduceEqDiff, xI, xJ, xR, xS, xN, li_0, li_1, li_2, li_3, li_4, li_5, li_6, li_7, li_8, li_9, li_10, li_11, li_12, li_13, li_14, li_15, li_16, li_20, li_34, li_40, li_50, li_59, li_60, li_64, li_99, li_100, li_200, li_500, li_1439, li_1440, li_3840, li_4000, li_10000, li_60000, li_1000000, li_m1, li_min, ck_0, ck_1, ck_2, ck_3, ck_4] at * <;> omega))
    | (with_reducible refine ne_and ?hv ?_; case hv => decide)
    | (refine hK _ _ (SamS.mk rfl rfl) (fun K2 KX2 hK2 => ?_); try dsimp only [xI, xJ, xR, xS, xN])
    | (with_reducible refine hK2 _ _ ?_; try dsimp only [xI, xJ, xR, xS, xN])
    | exact fin_thr H (by assumption) _ (by decide)
    | exact finL_thr H (by assumption) _ (by decide)
    | exact finB_thr H (by assumption) (by decide)
    | ((with_reducible refine br_s (fun c => ?_) (fun c => ?_)) <;> (try simp only [Int32.lt_iff_toInt_lt, Int32.le_iff_toInt_le, ← Int32.toInt_inj, u2_ap, reduceIte, Nat.reduceEqDiff, xI, xJ, xR, xS, xN, li_0, li_1, li_2, li_3, li_4, li_5, li_6, li_7, li_8, li_9, li_10, li_11, li_12, li_13, li_14, li_15, li_16, li_20, li_34, li_40, li_50, li_59, li_60, li_64, li_99, li_100, li_200, li_500, li_1439, li_1440, li_3840, li_4000, li_10000, li_60000, li_1000000, li_m1, li_min, ck_0, ck_1, ck_2, ck_3, ck_4] at c) <;> (try (exfalso; omega)))
    | ((with_reducible refine br_s2 (fun c => ?_) (fun c => ?_)) <;> (try simp only [Int32.lt_iff_toInt_lt, Int32.le_iff_toInt_le, ← Int32.toInt_inj, u2_ap, reduceIte, Nat.reduceEqDiff, xI, xJ, xR, xS, xN, li_0, li_1, li_2, li_3, li_4, li_5, li_6, li_7, li_8, li_9, li_10, li_11, li_12, li_13, li_14, li_15, li_16, li_20, li_34, li_40, li_50, li_59, li_60, li_64, li_99, li_100, li_200, li_500, li_1439, li_1440, li_3840, li_4000, li_10000, li_60000, li_1000000, li_m1, li_min, ck_0, ck_1, ck_2, ck_3, ck_4] at c) <;> (try (exfalso; omega)))
    | ((with_reducible intro c); (try simp only [Int32.lt_iff_toInt_lt, Int32.le_iff_toInt_le, ← Int32.toInt_inj, u2_ap, reduceIte, Nat.reduceEqDiff, xI, xJ, xR, xS, xN, li_0, li_1, li_2, li_3, li_4, li_5, li_6, li_7, li_8, li_9, li_10, li_11, li_12, li_13, li_14, li_15, li_16, li_20, li_34, li_40, li_50, li_59, li_60, li_64, li_99, li_100, li_200, li_500, li_1439, li_1440, li_3840, li_4000, li_10000, li_60000, li_1000000, li_m1, li_min, ck_0, ck_1, ck_2, ck_3, ck_4] at c) <;> (try (exfalso; omega))))
set_option maxHeartbeats 4000000 in
theorem op_slot {a0 a1 a2 : Int32} (H : Rel L xs t n s h l X) (hK : ∀ c X1, SamS X X1 → (∀ K2 KX2, (∀ b X4, FinI L xs t c b X4 → K2 (some (vI b)) X4) → w_X12_slot tb0 [vR (some 42), vI a0, vI a1, vI a2] X1 K2 KX2) → K (some (vI c)) X1) : w_L_slot tb0 [vR (some 4), vI a0, vI a1, vI a2, vR (some 91)] X K KX := by
  obtain ⟨hS, hW, hR, hT, hL, hE, hKk, hH, hC, hG⟩ := id H
  have hslf : 0 ≤ a0.toInt → a0.toInt < 12 → xI X 47 a0.toNatClampNeg = xI X 9 a0.toNatClampNeg ∧ xI X 48 a0.toNatClampNeg = xI X 10 a0.toNatClampNeg ∧ bnd (xI X 9 a0.toNatClampNeg) 0 2 ∧ ((xI X 9 a0.toNatClampNeg).toInt = 1 → bnd (xI X 10 a0.toNatClampNeg) 0 ((n : Int) - 1)) := fun q1 q2 => by
    have := clp q1
    obtain ⟨e1, e2, e3, e4, -⟩ := hL a0.toNatClampNeg (by omega)
    exact ⟨e1, e2, e3, e4⟩
  have hn12 := hT.2.2.1
  have hkv : 0 ≤ a0.toInt → a0.toInt < 12 → kvF (xI X 9 a0.toNatClampNeg) (xI X 45 (xI X 10 a0.toNatClampNeg).toNatClampNeg) = kvF (xI X 47 a0.toNatClampNeg) (xI X 45 (xI X 48 a0.toNatClampNeg).toNatClampNeg) := fun q1 q2 => by
    obtain ⟨e1, e2, -⟩ := hslf q1 q2
    rw [e1, e2]
  have hms : 0 ≤ a0.toInt → a0.toInt < 12 → (0 ≤ (xI X 47 a0.toNatClampNeg).toInt ∧ (xI X 47 a0.toNatClampNeg).toInt ≤ 2) ∧ ((xI X 47 a0.toNatClampNeg).toInt = 1 → 0 ≤ (xI X 48 a0.toNatClampNeg).toInt ∧ (xI X 48 a0.toNatClampNeg).toInt < 12) := fun q1 q2 => by
    obtain ⟨e1, e2, e3, e4⟩ := hslf q1 q2
    rw [e1, e2]
    exact ⟨e3, fun z => ⟨(e4 z).1, by have := (e4 z).2; omega⟩⟩
  have ht1 : (xI X 4 4).toInt = n := by rw [hT.1, nI_toInt (by omega)]
  have ht2 : (xI X 42 5).toInt = n := by rw [hT.2.1, nI_toInt (by omega)]
  have hs40 := hE.2.2.1
  have hs1 : (xI X 11 2).toInt = s := by rw [hE.1, nI_toInt (by omega)]
  have hs2 : (xI X 42 6).toInt = s := by rw [hE.2.1, nI_toInt (by omega)]
  have ht3 : (xI X 4 4 - 1).toInt = (n : Int) - 1 := by rw [n_sub] <;> rw [ht1, li_1] <;> omega
  have hs3 : (xI X 11 2 - 1).toInt = (s : Int) - 1 := by rw [n_sub] <;> rw [hs1, li_1] <;> omega
  simp only [Int32.lt_iff_toInt_lt, Int32.le_iff_toInt_le, ← Int32.toInt_inj, u2_ap, reduceIte, Nat.reduceEqDiff, xI, xJ, xR, xS, xN, li_0, li_1, li_2, li_3, li_4, li_5, li_6, li_7, li_8, li_9, li_10, li_11, li_12, li_13, li_14, li_15, li_16, li_20, li_34, li_40, li_50, li_59, li_60, li_64, li_99, li_100, li_200, li_500, li_1439, li_1440, li_3840, li_4000, li_10000, li_60000, li_1000000, li_m1, li_min, ck_0, ck_1, ck_2, ck_3, ck_4] at ht1 ht2 hs1 hs2 ht3 hs3
  repeat' (first
    | with_reducible refine i_L_slot ?_
    | with_reducible refine e_L_slot_27 ?_
    | with_reducible refine e_L_slot_25 ?_
    | with_reducible refine e_L_slot_21 ?_
    | with_reducible refine e_L_slot_17 ?_
    | with_reducible refine i_X11_slot ?_
    | with_reducible refine e_X11_slot_34 ?_
    | with_reducible refine e_X11_slot_38 ?_
    | with_reducible refine e_X11_slot_39 ?_
    | with_reducible refine e_X11_slot_64 ?_
    | with_reducible refine e_X11_slot_68 ?_
    | with_reducible refine e_X11_slot_69 ?_
    | with_reducible refine i_X12_slot ?_
    | with_reducible refine e_X12_slot_36 ?_
    | with_reducible refine e_X12_slot_28 ?_
    | with_reducible refine e_X12_slot_29 ?_
    | with_reducible refine e_X12_slot_38 ?_
    | with_reducible refine e_X12_slot_67 ?_
    | with_reducible refine e_X12_slot_71 ?_
    | with_reducible refine e_X12_slot_60 ?_
    | with_reducible refine e_X12_slot_64 ?_
    | with_reducible refine e_X12_slot_72 ?_
    | with_reducible refine e_X12_slot_81 ?_
    | with_reducible refine i_X12_isSlot ?_
    | with_reducible refine e_X12_isSlot_15 ?_
    | with_reducible refine e_X12_isSlot_16 ?_
    | ((with_reducible refine s_kindHeld (n := n) (s := s) ?_ ?_ ?_ ?_ ?_); (· exact hT); (· exact hL); (· omega); (· omega))
    | ((with_reducible refine s_held ?_ ?_ ?_ ?_ ?_); (· omega); (· omega); (· exact (hms (by omega) (by omega)).1); (· exact (hms (by omega) (by omega)).2))
    | with_reducible refine s_isFrom ?_ ?_
    | with_reducible refine s_demand1 ?_
    | with_reducible refine s_demand0 ?_
    | with_reducible refine s_demandSuch1 ?_
    | with_reducible refine s_demandSuch0 ?_
    | with_reducible refine s_demandState1 ?_
    | with_reducible refine s_demandState0 ?_
    | with_reducible refine s_demandPlace ?_ ?_
    | with_reducible refine s_refuse ?_ ?_
    | (with_reducible refine s_hired ?hb ?_ ?_; case hb => assumption)
    | with_reducible refine s_right1 ?_
    | with_reducible refine s_right0 (by decide) ?_
    | with_reducible refine s_thrown ?_
    | with_reducible refine rI_in ?_
    | with_reducible refine rV_in ?_
    | with_reducible refine rL_in ?_
    | with_reducible refine rR_in ?_
    | with_reducible refine ite_t rfl ?_
    | with_reducible refine ite_f (by decide) ?_
    | with_reducible refine gd_in (by decide) ?_
    | with_reducible refine or0_and ?_
    | with_reducible refine or1_and ?_
    | with_reducible refine br_t (by decide) ?_
    | with_reducible refine br_f (by decide) ?_
    | with_reducible refine br_t2 (by decide) ?_
    | with_reducible refine br_f2 (by decide) ?_
    | (with_reducible refine vin_and ?hv ?_; case hv => first | omega | (simp only [Int32.lt_iff_toInt_lt, Int32.le_iff_toInt_le, ← Int32.toInt_inj, u2_ap, reduceIte, Nat.reduceEqDiff, xI, xJ, xR, xS, xN, li_0, li_1, li_2, li_3, li_4, li_5, li_6, li_7, li_8, li_9, li_10, li_11, li_12, li_13, li_14, li_15, li_16, li_20, li_34, li_40, li_50, li_59, li_60, li_64, li_99, li_100, li_200, li_500, li_1439, li_1440, li_3840, li_4000, li_10000, li_60000, li_1000000, li_m1, li_min, ck_0, ck_1, ck_2, ck_3, ck_4] at * <;> omega))
    | (with_reducible refine ne_and ?hv ?_; case hv => decide)
    | (refine hK _ _ (SamS.mk rfl rfl) (fun K2 KX2 hK2 => ?_); try dsimp only [xI, xJ, xR, xS, xN])
    | (with_reducible refine hK2 _ _ ?_; try dsimp only [xI, xJ, xR, xS, xN])
    | exact fin_thr H (by assumption) _ (by decide)
    | exact finL_thr H (by assumption) _ (by decide)
    | exact finB_thr H (by assumption) (by decide)
    | ((with_reducible refine br_s (fun c => ?_) (fun c => ?_)) <;> (try simp only [Int32.lt_iff_toInt_lt, Int32.le_iff_toInt_le, ← Int32.toInt_inj, u2_ap, reduceIte, Nat.reduceEqDiff, xI, xJ, xR, xS, xN, li_0, li_1, li_2, li_3, li_4, li_5, li_6, li_7, li_8, li_9, li_10, li_11, li_12, li_13, li_14, li_15, li_16, li_20, li_34, li_40, li_50, li_59, li_60, li_64, li_99, li_100, li_200, li_500, li_1439, li_1440, li_3840, li_4000, li_10000, li_60000, li_1000000, li_m1, li_min, ck_0, ck_1, ck_2, ck_3, ck_4] at c) <;> (try (exfalso; omega)))
    | ((with_reducible refine br_s2 (fun c => ?_) (fun c => ?_)) <;> (try simp only [Int32.lt_iff_toInt_lt, Int32.le_iff_toInt_le, ← Int32.toInt_inj, u2_ap, reduceIte, Nat.reduceEqDiff, xI, xJ, xR, xS, xN, li_0, li_1, li_2, li_3, li_4, li_5, li_6, li_7, li_8, li_9, li_10, li_11, li_12, li_13, li_14, li_15, li_16, li_20, li_34, li_40, li_50, li_59, li_60, li_64, li_99, li_100, li_200, li_500, li_1439, li_1440, li_3840, li_4000, li_10000, li_60000, li_1000000, li_m1, li_min, ck_0, ck_1, ck_2, ck_3, ck_4] at c) <;> (try (exfalso; omega)))
    | ((with_reducible intro c); (try simp only [Int32.lt_iff_toInt_lt, Int32.le_iff_toInt_le, ← Int32.toInt_inj, u2_ap, reduceIte, Nat.reduceEqDiff, xI, xJ, xR, xS, xN, li_0, li_1, li_2, li_3, li_4, li_5, li_6, li_7, li_8, li_9, li_10, li_11, li_12, li_13, li_14, li_15, li_16, li_20, li_34, li_40, li_50, li_59, li_60, li_64, li_99, li_100, li_200, li_500, li_1439, li_1440, li_3840, li_4000, li_10000, li_60000, li_1000000, li_m1, li_min, ck_0, ck_1, ck_2, ck_3, ck_4] at c) <;> (try (exfalso; omega))))
  all_goals exact fin_of (n := n) (s := s) (h := h) (l := l) ⟨rlS_n (X := X) hS rfl rfl rfl rfl rfl (Nat.le_refl _), hW, hR, rlT_fr (X := X) (by repeat (first | exact fun _ _ => rfl | refine u2_hi (by decide) ?_ | refine u1_hi (by decide) ?_)) rfl rfl rfl rfl (Nat.le_refl _) rfl rfl hT, rlL_put (X := X) (r := a0.toNatClampNeg) (v := a1) (w := a2) hL rfl rfl rfl rfl ⟨by omega, by omega⟩ (fun z => ⟨by omega, by omega⟩) (fun z => ⟨by omega, by omega⟩), hE, hKk, hH, rlC_fr (X := X) (by repeat (first | exact fun _ _ => rfl | refine u2_hi (by decide) ?_ | refine u1_hi (by decide) ?_)) rfl rfl rfl rfl rfl rfl rfl rfl (Nat.le_refl _) rfl hC, hG⟩ rfl (congrArg Int32.toInt64 (hkv (by omega) (by omega)))
end Ops
