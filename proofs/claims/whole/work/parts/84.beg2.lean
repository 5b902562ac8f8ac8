/-! begins, whole -/
section Beg2
variable {S : Nat → Nat × Nat} {F : Nat → Nat → Int32} {J : Nat → Nat → Int64} {R : Nat → Nat → Option Nat} {nn c k q : Nat} {K : Option AV → AX → Prop} {KX : String → AX → Prop}
theorem bgI_fr {kk zone tm n1 : Int32} {g : Nat → Int32} {i : Nat} (h1 : i < 59 ∨ 73 < i) (h2 : i < 78 ∨ 81 < i) : bgI F c kk zone tm n1 g i = F i := by
  unfold bgI
  rw [u1_ne _ _ (by omega), u2_ne _ _ _ (by omega), u2_ne _ _ _ (by omega), u2_ne _ _ _ (by omega), u2_ne _ _ _ (by omega), u2_ne _ _ _ (by omega), u2_ne _ _ _ (by omega), u2_ne _ _ _ (by omega), u2_ne _ _ _ (by omega), u2_ne _ _ _ (by omega), u2_ne _ _ _ (by omega), u2_ne _ _ _ (by omega), u2_ne _ _ _ (by omega), u2_ne _ _ _ (by omega), u2_ne _ _ _ (by omega), u2_ne _ _ _ (by omega), u2_ne _ _ _ (by omega), u2_ne _ _ _ (by omega), u2_ne _ _ _ (by omega)]
theorem bgI_j {kk zone tm n1 : Int32} {g : Nat → Int32} {i j : Nat} (hj : ¬ j = c) (hi : ¬ i = 81) : bgI F c kk zone tm n1 g i j = F i j := by
  simp [bgI, u1_ap, u2_ap, hj, hi]
theorem bgJ_j {n0 : Int64} {i j : Nat} (hj : ¬ j = c) : bgJ J c n0 i j = J i j := by
  simp [bgJ, u2_ap, hj]
theorem bgJ_fr {n0 : Int64} {i : Nat} (h : i < 74 ∨ 77 < i) : bgJ J c n0 i = J i := by
  unfold bgJ
  rw [u2_ne _ _ _ (by omega), u2_ne _ _ _ (by omega), u2_ne _ _ _ (by omega), u2_ne _ _ _ (by omega)]
set_option maxHeartbeats 4000000 in
theorem s_begins2 {zone mi se : Int32} (hc : c < 5) (hk : k < 12) (hq : q < 5) (hkd : F 45 k = nI q) (hK : ∀ X', Bgn c k q zone (60 * mi + se) (S, F, J, R, nn) X' → K none X') : w_X12_begins tb0 [vR (some 42), vI (nI c), vI (nI k), vI zone, vI mi, vI se] (S, F, J, R, nn) K KX := by
  refine s_begins hc hk (fun g hg => ?_)
  have g0 : ∀ i, i < 12 → g (12 * c + i) = 0 := fun i hi => by rw [hg, if_pos ⟨by omega, by omega⟩]
  have gx : ∀ j, (j < 12 * c ∨ 12 * c + 12 ≤ j) → g j = F 81 j := fun j hj => by rw [hg, if_neg (by omega)]
  have k45 : bgI F c (nI k) zone (60 * mi + se) (F 46 (15 * k + 1)) g 45 k = nI q := by rw [bgI_fr (by omega) (by omega)]; exact hkd
  have k46 : bgI F c (nI k) zone (60 * mi + se) (F 46 (15 * k + 1)) g 46 = F 46 := bgI_fr (by omega) (by omega)
  have k81 : bgI F c (nI k) zone (60 * mi + se) (F 46 (15 * k + 1)) g 81 = g := by simp [bgI, u1_ap]
  have z32L : (0 : Int32).toInt64 = 0 := by decide
  refine s_calls (F := bgI F c (nI k) zone (60 * mi + se) (F 46 (15 * k + 1)) g) (J := bgJ J c (F 46 (15 * k + 0)).toInt64) hc hk (fun h => rV_in (hK _ ?_)) (fun h4 h81 => rV_in (hK _ ?_))
  · have hq4 : ¬ q = 4 := fun z => h ⟨by rw [k45, z]; rfl, by rw [k81]; exact g0 k hk⟩
    have ee : eOf q (F 46 (15 * k + 14)) = 0 := by unfold eOf; rw [if_neg hq4]
    refine ⟨rfl, rfl, rfl, fun i h1 h2 => bgI_fr h1 h2, fun i hi => bgJ_fr hi, fun i j hj h1 h2 => bgI_j hj (by omega), fun i j hj => bgJ_j hj, fun j hj => ?_, ?_, ?_, ?_, ?_, ?_, ?_, ?_, ?_, ?_, ?_, ?_, ?_, ?_, ?_, ?_, ?_, ?_, ?_, ?_, ?_, ?_, fun i hi => ?_⟩
    · show bgI F c (nI k) zone (60 * mi + se) (F 46 (15 * k + 1)) g 81 j = F 81 j
      rw [k81]; exact gx j hj
    all_goals first
      | (dsimp only [xI, xJ]; simp [bgI, u1_ap, u2_ap]; done)
      | (dsimp only [xI, xJ]; simp [bgJ, u2_ap]; done)
      | (show bgJ J c (F 46 (15 * k + 0)).toInt64 75 c = (F 46 (15 * k + 0)).toInt64 + (eOf q (F 46 (15 * k + 14))).toInt64
         rw [ee, z32L, Int64.add_zero]
         simp [bgJ, u2_ap])
      | (show bgJ J c (F 46 (15 * k + 0)).toInt64 76 c = (eOf q (F 46 (15 * k + 14))).toInt64
         rw [ee, z32L]
         simp [bgJ, u2_ap])
      | (show bgI F c (nI k) zone (60 * mi + se) (F 46 (15 * k + 1)) g 81 (12 * c + i) = _
         rw [k81, g0 i hi, if_neg (fun z => hq4 z.2)])
  · have hq4 : q = 4 := by
      rw [k45] at h4
      exact (nI_eq (b := 4) (by omega) (by decide)).mp h4
    have ee : eOf q (F 46 (15 * k + 14)) = F 46 (15 * k + 14) := by unfold eOf; rw [if_pos hq4]
    have j76 : bgJ J c (F 46 (15 * k + 0)).toInt64 76 c = 0 := by simp [bgJ, u2_ap]
    have j75 : bgJ J c (F 46 (15 * k + 0)).toInt64 75 c = (F 46 (15 * k + 0)).toInt64 := by simp [bgJ, u2_ap]
    rw [k46, j76, j75]
    refine ⟨rfl, rfl, rfl, fun i h1 h2 => ?_, fun i hi => ?_, fun i j hj h1 h2 => ?_, fun i j hj => ?_, fun j hj => ?_, ?_, ?_, ?_, ?_, ?_, ?_, ?_, ?_, ?_, ?_, ?_, ?_, ?_, ?_, ?_, ?_, ?_, ?_, ?_, ?_, ?_, fun i hi => ?_⟩
    · show u2 (bgI F c (nI k) zone (60 * mi + se) (F 46 (15 * k + 1)) g) 81 (12 * c + k) 1 i = F i
      rw [u2_ne _ _ _ (by omega)]; exact bgI_fr h1 h2
    · show u2 (u2 (bgJ J c (F 46 (15 * k + 0)).toInt64) 76 c _) 75 c _ i = J i
      rw [u2_ne _ _ _ (by omega), u2_ne _ _ _ (by omega)]; exact bgJ_fr hi
    · show u2 (bgI F c (nI k) zone (60 * mi + se) (F 46 (15 * k + 1)) g) 81 (12 * c + k) 1 i j = F i j
      rw [u2_ne _ _ _ (by omega)]; exact bgI_j hj (by omega)
    · show u2 (u2 (bgJ J c (F 46 (15 * k + 0)).toInt64) 76 c _) 75 c _ i j = J i j
      simp [u2_ap, hj]; exact bgJ_j hj
    · show u2 (bgI F c (nI k) zone (60 * mi + se) (F 46 (15 * k + 1)) g) 81 (12 * c + k) 1 81 j = F 81 j
      rw [u2_at, if_neg (by omega), k81]; exact gx j hj
    all_goals first
      | (dsimp only [xI, xJ]; simp [bgI, u1_ap, u2_ap]; done)
      | (dsimp only [xI, xJ]; simp [bgJ, u2_ap]; done)
      | (show u2 (u2 (bgJ J c (F 46 (15 * k + 0)).toInt64) 76 c (0 + (F 46 (15 * k + 14)).toInt64)) 75 c ((F 46 (15 * k + 0)).toInt64 + (F 46 (15 * k + 14)).toInt64) 75 c = (F 46 (15 * k + 0)).toInt64 + (eOf q (F 46 (15 * k + 14))).toInt64
         rw [ee]; simp [u2_ap])
      | (show u2 (u2 (bgJ J c (F 46 (15 * k + 0)).toInt64) 76 c (0 + (F 46 (15 * k + 14)).toInt64)) 75 c ((F 46 (15 * k + 0)).toInt64 + (F 46 (15 * k + 14)).toInt64) 76 c = (eOf q (F 46 (15 * k + 14))).toInt64
         rw [ee]; simp [u2_ap])
      | (show u2 (bgI F c (nI k) zone (60 * mi + se) (F 46 (15 * k + 1)) g) 81 (12 * c + k) 1 81 (12 * c + i) = _
         rw [u2_at, k81]
         by_cases h : i = k
         · subst h; rw [if_pos rfl, if_pos ⟨rfl, hq4⟩]
         · rw [if_neg (by omega), if_neg (fun z => h z.1)]; exact g0 i hi)
end Beg2
