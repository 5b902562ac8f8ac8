/-! a tariff at hand: pictures of the class's take and the reference's puts -/
section Put
variable {S : Nat → Nat × Nat} {F : Nat → Nat → Int32} {J : Nat → Nat → Int64} {R : Nat → Nat → Option Nat} {nn : Nat} {X : AX} {K : Option AV → AX → Prop} {KX : String → AX → Prop} {k q d c hn : Nat}
/-- what a tariff of a call brings -/
def xtr (q : Nat) (b : Bool) (x : Int32) : Int32 := if b = true then 0 else eOf q x
def TkP (m d k : Nat) (e : Int32) (X X' : AX) : Prop := xS X' = xS X ∧ xN X' = xN X ∧ xR X' = u2 (xR X) m 1 (some d) ∧ (∀ i, i ≠ m → xI X' i = xI X i) ∧ (∀ j, j ≠ 9 → j ≠ 11 → xI X' m j = xI X m j) ∧ xI X' m 9 = xI X m 9 + e ∧ (∀ j, bitc (xI X' m 11) j = (bitc (xI X m 11) j || decide (j = k))) ∧ (∀ i, i ≠ m → xJ X' i = xJ X i) ∧ (∀ j, j ≠ 6 → xJ X' m j = xJ X m j) ∧ xJ X' m 6 = xJ X m 6 + e.toInt64
theorem s_takeP_15 (hd : 92 ≤ d) (hs : S d = (kcl q, 1)) (hs1 : S (d + 1) = (1, 15)) (hq : q < 5) (hk : k < 12) (hn : F d 0 = nI k) (hK : ∀ X', TkP 15 d k (xtr q (bitc (F 15 11) k) (F (d + 1) 14)) (S, F, J, R, nn) X' → K none X') : w_X5_take tb0 [vR (some 15), vR (some d)] (S, F, J, R, nn) K KX := by
  refine s_take_15 hd hs hs1 hq hk hn (fun hb => hK _ ?_) (fun hb => hK _ ?_)
  · rw [hb]
    refine ⟨rfl, rfl, rfl, fun _ _ => rfl, fun _ _ _ => rfl, ?_, fun j => ?_, fun _ _ => rfl, fun _ _ => rfl, ?_⟩
    · show F 15 9 = F 15 9 + 0
      rw [Int32.add_zero]
    · show bitc (F 15 11) j = (bitc (F 15 11) j || decide (j = k))
      by_cases e : j = k
      · rw [e, hb]; try rfl
      · rw [decide_eq_false e, Bool.or_false]
    · show J 15 6 = J 15 6 + (0 : Int32).toInt64
      rw [show (0 : Int32).toInt64 = 0 by decide, Int64.add_zero]
  · rw [hb]
    refine ⟨rfl, rfl, rfl, fun i hi => ?_, fun j h9 h11 => ?_, ?_, fun j => ?_, fun i hi => ?_, fun j hj => ?_, ?_⟩
    · show u2 (u2 F 15 11 _) 15 9 _ i = F i
      rw [u2_ne _ _ _ hi, u2_ne _ _ _ hi]
    · show u2 (u2 F 15 11 _) 15 9 _ 15 j = F 15 j
      rw [u2_at, if_neg h9, u2_at, if_neg h11]
    · rfl
    · show bitc (F 15 11 ||| mkB k) j = _
      exact mkB_or hk
    · show u2 J 15 6 _ i = J i
      rw [u2_ne _ _ _ hi]
    · show u2 J 15 6 _ 15 j = J 15 j
      rw [u2_at, if_neg hj]
    · rfl
theorem s_takeP_29 (hd : 92 ≤ d) (hs : S d = (kcl q, 1)) (hs1 : S (d + 1) = (1, 15)) (hq : q < 5) (hk : k < 12) (hn : F d 0 = nI k) (hK : ∀ X', TkP 29 d k (xtr q (bitc (F 29 11) k) (F (d + 1) 14)) (S, F, J, R, nn) X' → K none X') : w_X5_take tb0 [vR (some 29), vR (some d)] (S, F, J, R, nn) K KX := by
  refine s_take_29 hd hs hs1 hq hk hn (fun hb => hK _ ?_) (fun hb => hK _ ?_)
  · rw [hb]
    refine ⟨rfl, rfl, rfl, fun _ _ => rfl, fun _ _ _ => rfl, ?_, fun j => ?_, fun _ _ => rfl, fun _ _ => rfl, ?_⟩
    · show F 29 9 = F 29 9 + 0
      rw [Int32.add_zero]
    · show bitc (F 29 11) j = (bitc (F 29 11) j || decide (j = k))
      by_cases e : j = k
      · rw [e, hb]; try rfl
      · rw [decide_eq_false e, Bool.or_false]
    · show J 29 6 = J 29 6 + (0 : Int32).toInt64
      rw [show (0 : Int32).toInt64 = 0 by decide, Int64.add_zero]
  · rw [hb]
    refine ⟨rfl, rfl, rfl, fun i hi => ?_, fun j h9 h11 => ?_, ?_, fun j => ?_, fun i hi => ?_, fun j hj => ?_, ?_⟩
    · show u2 (u2 F 29 11 _) 29 9 _ i = F i
      rw [u2_ne _ _ _ hi, u2_ne _ _ _ hi]
    · show u2 (u2 F 29 11 _) 29 9 _ 29 j = F 29 j
      rw [u2_at, if_neg h9, u2_at, if_neg h11]
    · rfl
    · show bitc (F 29 11 ||| mkB k) j = _
      exact mkB_or hk
    · show u2 J 29 6 _ i = J i
      rw [u2_ne _ _ _ hi]
    · show u2 J 29 6 _ 29 j = J 29 j
      rw [u2_at, if_neg hj]
    · rfl
theorem s_takeP_37 (hd : 92 ≤ d) (hs : S d = (kcl q, 1)) (hs1 : S (d + 1) = (1, 15)) (hq : q < 5) (hk : k < 12) (hn : F d 0 = nI k) (hK : ∀ X', TkP 37 d k (xtr q (bitc (F 37 11) k) (F (d + 1) 14)) (S, F, J, R, nn) X' → K none X') : w_X5_take tb0 [vR (some 37), vR (some d)] (S, F, J, R, nn) K KX := by
  refine s_take_37 hd hs hs1 hq hk hn (fun hb => hK _ ?_) (fun hb => hK _ ?_)
  · rw [hb]
    refine ⟨rfl, rfl, rfl, fun _ _ => rfl, fun _ _ _ => rfl, ?_, fun j => ?_, fun _ _ => rfl, fun _ _ => rfl, ?_⟩
    · show F 37 9 = F 37 9 + 0
      rw [Int32.add_zero]
    · show bitc (F 37 11) j = (bitc (F 37 11) j || decide (j = k))
      by_cases e : j = k
      · rw [e, hb]; try rfl
      · rw [decide_eq_false e, Bool.or_false]
    · show J 37 6 = J 37 6 + (0 : Int32).toInt64
      rw [show (0 : Int32).toInt64 = 0 by decide, Int64.add_zero]
  · rw [hb]
    refine ⟨rfl, rfl, rfl, fun i hi => ?_, fun j h9 h11 => ?_, ?_, fun j => ?_, fun i hi => ?_, fun j hj => ?_, ?_⟩
    · show u2 (u2 F 37 11 _) 37 9 _ i = F i
      rw [u2_ne _ _ _ hi, u2_ne _ _ _ hi]
    · show u2 (u2 F 37 11 _) 37 9 _ 37 j = F 37 j
      rw [u2_at, if_neg h9, u2_at, if_neg h11]
    · rfl
    · show bitc (F 37 11 ||| mkB k) j = _
      exact mkB_or hk
    · show u2 J 37 6 _ i = J i
      rw [u2_ne _ _ _ hi]
    · show u2 J 37 6 _ 37 j = J 37 j
      rw [u2_at, if_neg hj]
    · rfl
/-- what the reference's calls adds -/
noncomputable def xtr' (F : Nat → Nat → Int32) (c k : Nat) : Int32 := @ite _ (F 45 k = 4 ∧ F 81 (12 * c + k) = 0) (Classical.propDecidable _) (F 46 (15 * k + 14)) 0
def PtP (c k hn : Nat) (X X' : AX) : Prop := xS X' = xS X ∧ xN X' = xN X ∧ xR X' = xR X ∧ (∀ i, i ≠ 64 → i ≠ 70 → i ≠ 81 → i ≠ 83 → i ≠ 84 → xI X' i = xI X i) ∧ xI X' 64 = stf (xI X 64) c (nI k) ∧ xI X' 70 = stf (xI X 70) c (nI (hn + 1)) ∧ (∀ j, j ≠ 12 * c + k → xI X' 81 j = xI X 81 j) ∧ (xI X 45 k = 4 → xI X' 81 (12 * c + k) = 1) ∧ (¬ xI X 45 k = 4 → xI X' 81 (12 * c + k) = xI X 81 (12 * c + k)) ∧ xI X' 83 = stf (xI X 83) (50 * c + hn) (xI X 59 c) ∧ xI X' 84 = stf (xI X 84) (50 * c + hn) (nI k) ∧ (∀ i, i ≠ 75 → i ≠ 76 → xJ X' i = xJ X i) ∧ (∀ i j, j ≠ c → xJ X' i j = xJ X i j) ∧ xJ X' 75 c = xJ X 75 c + (xtr' (xI X) c k).toInt64 ∧ xJ X' 76 c = xJ X 76 c + (xtr' (xI X) c k).toInt64
set_option maxHeartbeats 1000000 in
theorem s_puts (hc : c < 5) (hk : k < 12) (h64 : ¬ F 64 c = nI k) (h70 : F 70 c = nI hn) (hh : hn < 50) (hb : bl (F 81 (12 * c + k))) (hK : ∀ X', PtP c k hn (S, F, J, R, nn) X' → K none X') : w_X12_puts tb0 [vR (some 42), vI (nI c), vI (nI k)] (S, F, J, R, nn) K KX := by
  have ec : (nI c).toNatClampNeg = c := nI_clamp (by omega)
  have vc : vp_in (nI c) 5 := vp_in_nI (by omega) (by decide)
  obtain ⟨x1, x2⟩ := ixm (mm := 50) (m := 50) (c := c) (n := hn) (by decide) (by decide) hc hh
  have e70 : xI (S, F, J, R, nn) 70 (nI c).toNatClampNeg = nI hn := by rw [ec]; exact h70
  have y64 : ∀ g : Nat → Nat → Int32, g 64 = F 64 → u2 g 64 c (nI k) 64 = stf (F 64) c (nI k) := fun g hg => by
    funext j
    rw [u2_at, hg]; try rfl
  refine i_X12_puts ⟨vc, fun _ => e_X12_puts_11 ?_, fun z => absurd ?_ h64⟩
  · rw [e70, x2, nI_1, ec]
    refine ⟨vc, vc, ixm_in (m := 50) (by decide) (by decide) hc hh, vc, ixm_in (m := 50) (by decide) (by decide) hc hh, vc, vc, vc, s_calls hc hk (fun hz => rV_in (hK _ ?_)) (fun hz1 hz2 => rV_in (hK _ ?_))⟩
    · have hz' : ¬ (F 45 k = 4 ∧ F 81 (12 * c + k) = 0) := hz
      have ex : xtr' (xI (S, F, J, R, nn)) c k = 0 := by
        unfold xtr'
        exact if_neg hz'
      refine ⟨rfl, rfl, rfl, fun i c1 c2 c3 c4 c5 => ?_, ?_, ?_, fun j hj => ?_, fun h4 => ?_, fun h4 => ?_, ?_, ?_, fun i c1 c2 => rfl, fun i j hj => rfl, ?_, ?_⟩
      · show u2 (u2 (u2 (u2 F 83 _ _) 84 _ _) 70 c _) 64 c _ i = F i
        rw [u2_ne _ _ _ c1, u2_ne _ _ _ c2, u2_ne _ _ _ c5, u2_ne _ _ _ c4]
      · funext j
        show u2 (u2 (u2 (u2 F 83 _ _) 84 _ _) 70 c _) 64 c _ 64 j = _
        rw [u2_at]; try rfl
      · funext j
        show u2 (u2 (u2 F 83 _ _) 84 _ _) 70 c _ 70 j = _
        rw [u2_at]; try rfl
      · rfl
      · show F 81 (12 * c + k) = 1
        rcases hb with e | e
        · exact absurd ⟨h4, e⟩ hz'
        · exact e
      · rfl
      · funext j
        show u2 F 83 (50 * c + hn) (F 59 c) 83 j = _
        rw [u2_at]; try rfl
      · funext j
        show u2 (u2 F 83 _ _) 84 (50 * c + hn) (nI k) 84 j = _
        rw [u2_at]; try rfl
      · rw [ex]
        show J 75 c = J 75 c + (0 : Int32).toInt64
        rw [show (0 : Int32).toInt64 = 0 by decide, Int64.add_zero]
      · rw [ex]
        show J 76 c = J 76 c + (0 : Int32).toInt64
        rw [show (0 : Int32).toInt64 = 0 by decide, Int64.add_zero]
    · have hz1' : F 45 k = 4 := hz1
      have hz2' : F 81 (12 * c + k) = 0 := hz2
      have ex : xtr' (xI (S, F, J, R, nn)) c k = F 46 (15 * k + 14) := by
        unfold xtr'
        exact if_pos ⟨hz1', hz2'⟩
      refine ⟨rfl, rfl, rfl, fun i c1 c2 c3 c4 c5 => ?_, ?_, ?_, fun j hj => ?_, fun h4 => ?_, fun h4 => absurd hz1' h4, ?_, ?_, fun i c1 c2 => ?_, fun i j hj => ?_, ?_, ?_⟩
      · show u2 (u2 (u2 (u2 (u2 F 83 _ _) 84 _ _) 70 c _) 64 c _) 81 _ _ i = F i
        rw [u2_ne _ _ _ c3, u2_ne _ _ _ c1, u2_ne _ _ _ c2, u2_ne _ _ _ c5, u2_ne _ _ _ c4]
      · funext j
        show u2 (u2 (u2 (u2 F 83 _ _) 84 _ _) 70 c _) 64 c _ 64 j = _
        rw [u2_at]; try rfl
      · funext j
        show u2 (u2 (u2 F 83 _ _) 84 _ _) 70 c _ 70 j = _
        rw [u2_at]; try rfl
      · show u2 (u2 (u2 (u2 (u2 F 83 _ _) 84 _ _) 70 c _) 64 c _) 81 (12 * c + k) 1 81 j = F 81 j
        rw [u2_at, if_neg hj]; try rfl
      · show u2 (u2 (u2 (u2 (u2 F 83 _ _) 84 _ _) 70 c _) 64 c _) 81 (12 * c + k) 1 81 (12 * c + k) = 1
        rw [u2_at, if_pos rfl]
      · funext j
        show u2 F 83 (50 * c + hn) (F 59 c) 83 j = _
        rw [u2_at]; try rfl
      · funext j
        show u2 (u2 F 83 _ _) 84 (50 * c + hn) (nI k) 84 j = _
        rw [u2_at]; try rfl
      · show u2 (u2 J 76 c _) 75 c _ i = J i
        rw [u2_ne _ _ _ c1, u2_ne _ _ _ c2]
      · show u2 (u2 J 76 c _) 75 c _ i j = J i j
        rw [u2_nj hj, u2_nj hj]
      · rw [ex]
        show u2 (u2 J 76 c _) 75 c _ 75 c = J 75 c + _
        rw [u2_at, if_pos rfl]; try rfl
      · rw [ex]
        show u2 J 76 c _ 76 c = J 76 c + _
        rw [u2_at, if_pos rfl]; try rfl
  · rw [ec] at z; exact z
theorem s_isSlot1 {a0 a1 : Int32} (h0 : 0 ≤ a0.toInt) (h12 : a0.toInt < 12) (h : K (some (vI 1)) (S, u2 F 42 0 0, J, R, nn)) : w_X12_isSlot tb0 [vR (some 42), vI a0, vI a1] (S, u2 F 42 0 0, J, R, nn) K KX := by
  have e0 : (0 : Int32).toInt = 0 := by decide
  have e12 : (12 : Int32).toInt = 12 := by decide
  refine i_X12_isSlot ⟨fun z => ?_, fun _ => ⟨fun z => ?_, fun _ => e_X12_isSlot_16 (s_right1 (rI_in ⟨Or.inr rfl, h⟩))⟩⟩
  · have := Int32.lt_iff_toInt_lt.mp z
    omega
  · have := Int32.le_iff_toInt_le.mp z
    omega
theorem xtr_eq {m n : Nat} (hq : q < 5) (h45 : xI X 45 k = nI q) (hk : k < n) (hn : n ≤ 12) (hC : mCall n m c X) (h14 : xI X (d + 1) 14 = xI X 46 (15 * k + 14)) : xtr' (xI X) c k = xtr q (bitc (xI X m 11) k) (xI X (d + 1) 14) := by
  obtain ⟨-, c2, c3⟩ := hC k (by omega)
  have q4 : nI q = nI 4 ↔ q = 4 := nI_eq (by omega) (by decide)
  have e01 : ¬ (1 : Int32) = 0 := by decide
  unfold xtr' xtr eOf
  by_cases z : q = 4
  · have h4 : xI X 45 k = 4 := h45.trans (q4.mpr z)
    rw [c2 hk h4, if_pos z, h14]
    by_cases b : bitc (xI X m 11) k = true
    · rw [if_pos b, if_pos b, if_neg (fun y => e01 y.2)]
    · rw [if_neg b, if_neg b, if_pos ⟨h4, rfl⟩]
  · have h4 : ¬ xI X 45 k = 4 := fun y => z (q4.mp (h45.symm.trans y))
    rw [if_neg (fun y => h4 y.1), if_neg z]
    by_cases b : bitc (xI X m 11) k = true
    · rw [if_pos b]
    · rw [if_neg b]
end Put
