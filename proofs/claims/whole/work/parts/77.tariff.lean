/-! tariff, the call -/
section Ops
variable {L : Nat} {xs : Nat → Int32} {t n s h l : Nat} {X : AX} {K : Option AV → AX → Prop} {KX : String → AX → Prop}
theorem aF_bnd : ∀ j, j < 15 → (aLst j).toInt ≤ (aFst j).toInt ∧ (aFst j).toInt ≤ (aMst j).toInt := by decide
theorem u2_cg {α : Type} {F F' : Nat → Nat → α} {a k i : Nat} {v : α} (h : F i = F' i) : u2 F a k v i = u2 F' a k v i := by
  funext j; simp only [u2_ap, h]
theorem u1_cg {β : Type} {F F' : Nat → β} {a i : Nat} {v : β} (h : F i = F' i) : u1 F a v i = u1 F' a v i := by simp only [u1_ap, h]
theorem tI_at {F F' : Nat → Nat → Int32} {n : Nat} {k : Int32} {g : Nat → Int32} {i : Nat} (h : F i = F' i) : tI F n k g i = tI F' n k g i := by
  exact u2_cg (u1_cg (u2_cg (u2_cg (u2_cg h))))
theorem tI_hi {F : Nat → Nat → Int32} {n : Nat} {k : Int32} {g : Nat → Int32} {i : Nat} (h1 : i ≠ 4) (h2 : i ≠ 42) (h3 : i ≠ 45) (h4 : i ≠ 46) : tI F n k g i = F i := by
  unfold tI
  rw [u2_ne _ _ _ h2, u1_ne _ _ h4, u2_ne _ _ _ h3, u2_ne _ _ _ h2, u2_ne _ _ _ h1]
theorem rel_tar (H : Rel L xs t n s h l X) (hn : n < 12) {q : Nat} (hq : q < 5) {X1 : AX} (hN : NewD (kcl q) (nI n) X X1) {g : Nat → Int32} (hg : ∀ j, g j = if 15 * n ≤ j ∧ j < 15 * n + 15 then aFst (j - 15 * n) else xI X1 46 j) (v : Int64) : Rel L xs t (n + 1) s h l (xS X1, tI (xI X1) n (nI q) g, u2 (xJ X1) 91 0 v, u2 (xR X1) 8 n (some (xN X)), xN X1) := by
  obtain ⟨hS, hW, hR, hT, hL, hE, hKk, hH, hC, hG⟩ := H
  obtain ⟨p1, p2, p3, p4, p5, p6⟩ := hN
  have h92 := hS.2.2.2.2.2
  have low : ∀ i, i < 92 → xS X1 i = xS X i ∧ xI X1 i = xI X i ∧ xJ X1 i = xJ X i ∧ xR X1 i = xR X i := fun i hi => p6 i (by omega) (by omega)
  have e : lw (xS X1, tI (xI X1) n (nI q) g, u2 (xJ X1) 91 0 v, u2 (xR X1) 8 n (some (xN X)), xN X1) = lw (xS X, tI (xI X) n (nI q) g, u2 (xJ X) 91 0 v, u2 (xR X) 8 n (some (xN X)), xN X) := lw_eq fun i hi => by
    obtain ⟨l1, l2, l3, l4⟩ := low i hi
    refine ⟨tI_at l2, ?_, ?_⟩
    · show u2 (xJ X1) 91 0 v i = u2 (xJ X) 91 0 v i
      funext j; simp only [u2_ap, l3]
    · show u2 (xR X1) 8 n (some (xN X)) i = u2 (xR X) 8 n (some (xN X)) i
      funext j; simp only [u2_ap, l4]
  have hgl : ∀ j, j < 15 * n → g j = xI X 46 j := fun j hj => by rw [hg j, if_neg (by omega), (low 46 (by decide)).2.1]
  have lo : ∀ i, i < 92 → i ≠ 4 → i ≠ 42 → i ≠ 45 → i ≠ 46 → tI (xI X1) n (nI q) g i = xI X i := fun i hi a b c d => (tI_hi a b c d).trans (low i hi).2.1
  refine ⟨⟨(low 0 (by decide)).1.trans hS.1, (lo 0 (by decide) (by decide) (by decide) (by decide) (by decide)).trans hS.2.1, ⟨(low 1 (by decide)).1.trans hS.2.2.1.1, (lo 1 (by decide) (by decide) (by decide) (by decide) (by decide)).trans hS.2.2.1.2⟩, ⟨(low 2 (by decide)).1.trans hS.2.2.2.1.1, (lo 2 (by decide) (by decide) (by decide) (by decide) (by decide)).trans hS.2.2.2.1.2⟩, ⟨(low 3 (by decide)).1.trans hS.2.2.2.2.1.1, (lo 3 (by decide) (by decide) (by decide) (by decide) (by decide)).trans hS.2.2.2.2.1.2⟩, by show 92 ≤ xN X1; omega⟩, lw_W e hW, lw_R e hR, ⟨nI_1 n, nI_1 n, by omega, fun k hk => ?_⟩, lw_L e (rlL_up hL (Nat.le_succ _) (Nat.le_refl _)), lw_E e hE, lw_K e hKk, lw_H e hH, ?_, lw_G e (rlG_tar hn hgl hG)⟩
  · by_cases hkn : k = n
    · subst hkn
      refine ⟨xN X, ?_, h92, by show xN X + 1 < xN X1; omega, ⟨q, hq, ?_, p2⟩, p3, ?_, fun j hj => ?_⟩
      · show u2 (xR X1) 8 k (some (xN X)) 8 k = _
        rw [u2_at, if_pos rfl]
      · show u2 (u2 (u2 (xI X1) 4 4 (nI k + 1)) 42 0 0) 45 k (nI q) 45 k = _
        rw [u2_at, if_pos rfl]
      · show tI (xI X1) k (nI q) g (xN X) 0 = _
        rw [tI_hi (by omega) (by omega) (by omega) (by omega)]; exact p4
      · show tI (xI X1) k (nI q) g (xN X + 1) j = g (15 * k + j) ∧ bnd (tI (xI X1) k (nI q) g (xN X + 1) j) _ _
        rw [tI_hi (by omega) (by omega) (by omega) (by omega), p5, hS.2.2.1.2, hg, if_pos ⟨by omega, by omega⟩, show 15 * k + j - 15 * k = j by omega]
        exact ⟨rfl, aF_bnd j hj⟩
    · obtain ⟨d, w1, w2, w3, ⟨q', hq', w4, w5⟩, w6, w7, w8⟩ := hT.2.2.2 k (by omega)
      have f1 := p6 d (by omega) (by omega)
      have f2 := p6 (d + 1) (by omega) (by omega)
      refine ⟨d, ?_, w2, by show d + 1 < xN X1; omega, ⟨q', hq', ?_, f1.1.trans w5⟩, f2.1.trans w6, ?_, fun j hj => ?_⟩
      · show u2 (xR X1) 8 n (some (xN X)) 8 k = _
        rw [u2_at, if_neg hkn, (low 8 (by decide)).2.2.2]; exact w1
      · show u2 (u2 (u2 (xI X1) 4 4 (nI n + 1)) 42 0 0) 45 n (nI q) 45 k = _
        rw [u2_at, if_neg hkn]
        show xI X1 45 k = _
        rw [(low 45 (by decide)).2.1]; exact w4
      · show tI (xI X1) n (nI q) g d 0 = _
        rw [tI_hi (by omega) (by omega) (by omega) (by omega), f1.2.1]; exact w7
      · show tI (xI X1) n (nI q) g (d + 1) j = g (15 * k + j) ∧ bnd (tI (xI X1) n (nI q) g (d + 1) j) _ _
        rw [tI_hi (by omega) (by omega) (by omega) (by omega), f2.2.1, hgl _ (by omega)]
        exact w8 j hj
  · obtain ⟨rid, len, c1, c2, c3, c4, c5, c6, c7, c8, c9⟩ := hC
    have hE' : nEnd h (xS X1, tI (xI X1) n (nI q) g, u2 (xJ X1) 91 0 v, u2 (xR X1) 8 n (some (xN X)), xN X1) = nEnd h X := by
      show (if (tI (xI X1) n (nI q) g 14 6).toInt = 0 then h else h - 1) = _
      rw [lo 14 (by decide) (by decide) (by decide) (by decide) (by decide)]; rfl
    have f := p6 rid (by omega) (by omega)
    have hr : tI (xI X1) n (nI q) g rid = xI X rid := (tI_hi (by omega) (by omega) (by omega) (by omega)).trans f.2.1
    refine ⟨rid, len, ?_, c2, by show rid < xN X1; omega, ?_, c5, c6, by rw [hE']; exact c7, ?_, ?_⟩
    · show u2 (xR X1) 8 n (some (xN X)) 4 10 = _
      rw [u2_ne _ _ _ (by decide), (low 4 (by decide)).2.2.2]; exact c1
    · have : shp tb0 (xS X1, tI (xI X1) n (nI q) g, u2 (xJ X1) 91 0 v, u2 (xR X1) 8 n (some (xN X)), xN X1) rid = shp tb0 X rid := by
        unfold shp
        show (match tb0 rid with | some s => s | none => xS X1 rid) = _
        rw [f.1]
        rfl
      rw [this]; exact c4
    · rw [hE']
      intro j hj
      show tI (xI X1) n (nI q) g rid (4 * j) = tI (xI X1) n (nI q) g 51 j ∧ tI (xI X1) n (nI q) g rid (4 * j + 1) = tI (xI X1) n (nI q) g 52 j ∧ tI (xI X1) n (nI q) g rid (4 * j + 2) = tI (xI X1) n (nI q) g 53 j ∧ tI (xI X1) n (nI q) g rid (4 * j + 3) = tI (xI X1) n (nI q) g 54 j ∧ bl (tI (xI X1) n (nI q) g 54 j)
      rw [hr, lo 51 (by decide) (by decide) (by decide) (by decide) (by decide), lo 52 (by decide) (by decide) (by decide) (by decide) (by decide), lo 53 (by decide) (by decide) (by decide) (by decide) (by decide), lo 54 (by decide) (by decide) (by decide) (by decide) (by decide)]
      exact c8 j hj
    · rw [hE']
      intro j hj
      show tI (xI X1) n (nI q) g 55 j = _
      rw [lo 55 (by decide) (by decide) (by decide) (by decide) (by decide)]
      exact c9 j hj
set_option maxHeartbeats 4000000 in
theorem op_tariff {a0 : Int32} (H : Rel L xs t n s h l X) (hK : ∀ c X1, SamS X X1 → (∀ K2 KX2, (∀ b X4, FinI L xs t c b X4 → K2 (some (vI b)) X4) → w_X12_tariff tb0 [vR (some 42), vI a0] X1 K2 KX2) → K (some (vI c)) X1) : w_L_tariff tb0 [vR (some 4), vI a0, vR (some 91)] X K KX := by
  obtain ⟨hS, hW, hR, hT, hL, hE, hKk, hH, hC, hG⟩ := id H
  have hn12 := hT.2.2.1
  have ht1 : (xI X 4 4).toInt = n := by rw [hT.1, nI_toInt (by omega)]
  have ht2 : (xI X 42 5).toInt = n := by rw [hT.2.1, nI_toInt (by omega)]
  by_cases hin : n < 12 ∧ 0 ≤ a0.toInt ∧ a0.toInt ≤ 4
  · obtain ⟨hn, h0, h4⟩ := hin
    obtain ⟨q, hq, rfl⟩ : ∃ q : Nat, q < 5 ∧ a0 = nI q := ⟨a0.toInt.toNat, by omega, nI_ofI h0⟩
    refine i_L_tariff (i_X11_tariff (s_isFrom (fun _ _ => rI_in (s_demand1 (rV_in ⟨fun c => e_X11_tariff_20 ?_, fun c => absurd (by rw [hT.1]; exact nI_lt (b := 12) hn (by decide)) c⟩))) (fun c => absurd ⟨by rw [li_0]; exact h0, by rw [li_4]; exact h4⟩ c)))
    rw [hT.1, nI_clamp (by omega)]
    refine s_newTariff hq hS.2.2.2.2.2 hS.2.2.1.1 (fun X1 hN => rR_in (onS_in ⟨vp_in_nI hn (by decide), ?_, rI_in ⟨by unfold vp_in; decide, e_L_tariff_15 (hK _ _ (SamS.mk ?_ ?_) (fun K2 KX2 hK2 => ?_))⟩⟩))
    · rw [shp_hi hS.2.2.2.2.2, hN.2.1]
      have : ∀ q, q < 5 → ∃ ci, (ci = 0 ∨ ci = 1 ∨ ci = 2 ∨ ci = 3 ∨ ci = 6) ∧ kcl q = ci + 10 := fun q hq => by
        have h5 : q = 0 ∨ q = 1 ∨ q = 2 ∨ q = 3 ∨ q = 4 := by omega
        rcases h5 with rfl | rfl | rfl | rfl | rfl
        · exact ⟨1, by simp, rfl⟩
        · exact ⟨6, by simp, rfl⟩
        · exact ⟨2, by simp, rfl⟩
        · exact ⟨3, by simp, rfl⟩
        · exact ⟨0, by simp, rfl⟩
      exact this q hq
    · have h92 := hS.2.2.2.2.2
      exact (hN.2.2.2.2.2 0 (by omega) (by omega)).1
    · have h92 := hS.2.2.2.2.2
      show u2 (xI X1) 4 4 (xI X1 4 4 + 1) 0 = _
      rw [u2_ne _ _ _ (by decide)]
      exact (hN.2.2.2.2.2 0 (by omega) (by omega)).2.1
    · have h92 := hS.2.2.2.2.2
      have g4 : xI X1 4 4 = nI n := by rw [(hN.2.2.2.2.2 4 (by omega) (by omega)).2.1]; exact hT.1
      have g5 : xI X1 42 5 = nI n := by rw [(hN.2.2.2.2.2 42 (by omega) (by omega)).2.1]; exact hT.2.1
      dsimp only [xI, xJ, xR, xS, xN] at g4 g5 ⊢
      rw [g4]
      refine i_X12_tariff ⟨fun c => absurd c (nI_pos (by omega)), fun c => ⟨fun c1 => absurd c1 ?_, fun c1 => e_X12_tariff_20 (s_right1 (rI_in ⟨fun _ => e_X12_tariff_29 ⟨fun c2 => e_X12_tariff_40 ?_, fun c2 => ?_⟩, fun c2 => absurd c2 (by decide)⟩))⟩⟩
      · exact fun z => by
          rw [Int32.lt_iff_toInt_lt, li_4, nI_toInt (by omega)] at z; omega
      · show vp_in (X1.2.1 42 5) 12 ∧ r_X12_tariff tb0 K2 KX2 52 _ [] (X1.1, u2 (u2 (u2 X1.2.1 4 4 (nI n + 1)) 42 0 0) 45 (X1.2.1 42 5).toNatClampNeg (nI q), u2 X1.2.2.1 91 0 (Int32.toInt64 (nI n + 1 - 1)), u2 X1.2.2.2.1 8 n (some X.2.2.2.2), X1.2.2.2.2) 0 0
        rw [g5, nI_clamp (by omega)]
        refine ⟨vp_in_nI hn (by decide), x_tar52 hn g5 (fun g hg => e_X12_tariff_82 ?_)⟩
        show K2 (some (vI (X1.2.1 42 5 + 1 - 1))) (X1.1, u2 (u1 (u2 (u2 (u2 X1.2.1 4 4 (nI n + 1)) 42 0 0) 45 n (nI q)) 46 g) 42 5 (X1.2.1 42 5 + 1), u2 X1.2.2.1 91 0 (Int32.toInt64 (nI n + 1 - 1)), u2 X1.2.2.2.1 8 n (some X.2.2.2.2), X1.2.2.2.2)
        rw [g5]
        exact hK2 _ _ (fin_of (n := n + 1) (s := s) (h := h) (l := l) (rel_tar H hn hq hN hg _) rfl rfl)
      · have c3 : X1.2.1 42 5 = 12 := c2
        rw [g5] at c3
        exact absurd ((nI_eq (b := 12) (by omega) (by decide)).mp c3) (by omega)
  · simp only [Int32.lt_iff_toInt_lt, Int32.le_iff_toInt_le, ← Int32.toInt_inj, u2_ap, reduceIte, Nat.reduceEqDiff, xI, xJ, xR, xS, xN, li_0, li_1, li_2, li_3, li_4, li_5, li_6, li_7, li_8, li_9, li_10, li_11, li_12, li_13, li_14, li_15, li_16, li_20, li_34, li_40, li_50, li_59, li_60, li_64, li_99, li_100, li_200, li_500, li_1439, li_1440, li_3840, li_4000, li_10000, li_60000, li_1000000, li_m1, li_min, ck_0, ck_1, ck_2, ck_3, ck_4] at ht1 ht2
    repeat' (first
      | with_reducible refine i_L_tariff ?_
      | with_reducible refine e_L_tariff_15 ?_
      | with_reducible refine e_L_tariff_13 ?_
      | with_reducible refine i_X11_tariff ?_
      | with_reducible refine e_X11_tariff_20 ?_
      | with_reducible refine i_X12_tariff ?_
      | with_reducible refine e_X12_tariff_19 ?_
      | with_reducible refine e_X12_tariff_20 ?_
      | with_reducible refine e_X12_tariff_29 ?_
      | with_reducible refine e_X12_tariff_40 ?_
      | with_reducible refine e_X12_tariff_52 ?_
      | with_reducible refine e_X12_tariff_82 ?_
      | exact fin_read H rfl
      | with_reducible refine s_isFrom ?_ ?_
      | with_reducible refine s_demand1 ?_
      | with_reducible refine s_demand0 ?_
      | with_reducible refine s_demandSuch1 ?_
      | with_reducible refine s_demandSuch0 ?_
      | with_reducible refine s_demandState1 ?_
      | with_reducible refine s_demandState0 ?_
      | with_reducible refine s_demandPlace ?_ ?_
      | with_reducible refine s_refuse ?_ ?_
      | (with_reducible refine s_hired ?hb ?_ ?_; case hb => assumption)
      | with_reducible refine s_right1 ?_
      | with_reducible refine s_right0 (by decide) ?_
      | with_reducible refine s_thrown ?_
      | with_reducible refine rI_in ?_
      | with_reducible refine rV_in ?_
      | with_reducible refine rL_in ?_
      | with_reducible refine rR_in ?_
      | with_reducible refine ite_t rfl ?_
      | with_reducible refine ite_f (by decide) ?_
      | with_reducible refine gd_in (by decide) ?_
      | with_reducible refine or0_and ?_
      | with_reducible refine or1_and ?_
      | with_reducible refine br_t (by decide) ?_
      | with_reducible refine br_f (by decide) ?_
      | with_reducible refine br_t2 (by decide) ?_
      | with_reducible refine br_f2 (by decide) ?_
      | (with_reducible refine vin_and ?hv ?_; case hv => first | omega | (simp only [Int32.lt_iff_toInt_lt, Int32.le_iff_toInt_le, ← Int32.toInt_inj, u2_ap, reduceIte, Nat.reduceEqDiff, xI, xJ, xR, xS, xN, li_0, li_1, li_2, li_3, li_4, li_5, li_6, li_7, li_8, li_9, li_10, li_11, li_12, li_13, li_14, li_15, li_16, li_20, li_34, li_40, li_50, li_59, li_60, li_64, li_99, li_100, li_200, li_500, li_1439, li_1440, li_3840, li_4000, li_10000, li_60000, li_1000000, li_m1, li_min, ck_0, ck_1, ck_2, ck_3, ck_4] at * <;> omega))
      | (with_reducible refine ne_and ?hv ?_; case hv => decide)
      | (refine hK _ _ (SamS.mk rfl rfl) (fun K2 KX2 hK2 => ?_); try dsimp only [xI, xJ, xR, xS, xN])
      | (with_reducible refine hK2 _ _ ?_; try dsimp only [xI, xJ, xR, xS, xN])
      | exact fin_thr H (by assumption) _ (by decide)
      | exact finL_thr H (by assumption) _ (by decide)
      | exact finB_thr H (by assumption) (by decide)
      | ((with_reducible refine br_s (fun c => ?_) (fun c => ?_)) <;> (try simp only [Int32.lt_iff_toInt_lt, Int32.le_iff_toInt_le, ← Int32.toInt_inj, u2_ap, reduceIte, Nat.reduceEqDiff, xI, xJ, xR, xS, xN, li_0, li_1, li_2, li_3, li_4, li_5, li_6, li_7, li_8, li_9, li_10, li_11, li_12, li_13, li_14, li_15, li_16, li_20, li_34, li_40, li_50, li_59, li_60, li_64, li_99, li_100, li_200, li_500, li_1439, li_1440, li_3840, li_4000, li_10000, li_60000, li_1000000, li_m1, li_min, ck_0, ck_1, ck_2, ck_3, ck_4] at c) <;> (try (exfalso; omega)))
      | ((with_reducible refine br_s2 (fun c => ?_) (fun c => ?_)) <;> (try simp only [Int32.lt_iff_toInt_lt, Int32.le_iff_toInt_le, ← Int32.toInt_inj, u2_ap, reduceIte, Nat.reduceEqDiff, xI, xJ, xR, xS, xN, li_0, li_1, li_2, li_3, li_4, li_5, li_6, li_7, li_8, li_9, li_10, li_11, li_12, li_13, li_14, li_15, li_16, li_20, li_34, li_40, li_50, li_59, li_60, li_64, li_99, li_100, li_200, li_500, li_1439, li_1440, li_3840, li_4000, li_10000, li_60000, li_1000000, li_m1, li_min, ck_0, ck_1, ck_2, ck_3, ck_4] at c) <;> (try (exfalso; omega)))
      | ((with_reducible intro c); (try simp only [Int32.lt_iff_toInt_lt, Int32.le_iff_toInt_le, ← Int32.toInt_inj, u2_ap, reduceIte, Nat.reduceEqDiff, xI, xJ, xR, xS, xN, li_0, li_1, li_2, li_3, li_4, li_5, li_6, li_7, li_8, li_9, li_10, li_11, li_12, li_13, li_14, li_15, li_16, li_20, li_34, li_40, li_50, li_59, li_60, li_64, li_99, li_100, li_200, li_500, li_1439, li_1440, li_3840, li_4000, li_10000, li_60000, li_1000000, li_m1, li_min, ck_0, ck_1, ck_2, ck_3, ck_4] at c) <;> (try (exfalso; omega))))
end Ops
