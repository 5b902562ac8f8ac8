/-! the reference's calls and begins -/
def bgI (F : Nat → Nat → Int32) (c : Nat) (k zone tm n1 : Int32) (g : Nat → Int32) : Nat → Nat → Int32 := u1 (u2 (u2 (u2 (u2 (u2 (u2 (u2 (u2 (u2 (u2 (u2 (u2 (u2 (u2 (u2 (u2 (u2 (u2 F 59 c 0) 60 c zone) 61 c (-1)) 62 c tm) 63 c k) 64 c k) 65 c (F 42 1)) 66 c (F 42 2)) 67 c 0) 68 c (n1 - 1)) 69 c 0) 70 c 0) 71 c 0) 72 c 0) 73 c 0) 78 c 1) 79 c 0) 80 c 0) 81 g
def bgJ (J : Nat → Nat → Int64) (c : Nat) (n0 : Int64) : Nat → Nat → Int64 := u2 (u2 (u2 (u2 J 74 c 0) 75 c n0) 76 c 0) 77 c 0
section Beg
variable {S : Nat → Nat × Nat} {F : Nat → Nat → Int32} {J : Nat → Nat → Int64} {R : Nat → Nat → Option Nat} {nn c k : Nat} {K : Option AV → AX → Prop} {KX : String → AX → Prop}
theorem ix12 (c i : Nat) : (12 : Int32) * nI c + nI i = nI (12 * c + i) := by rw [show (12 : Int32) = nI 12 from rfl, pk_mul, nI_add]
theorem s_num {j : Nat} {X : AX} (hk : k < 12) (hj : j < 15) (h : K (some (vI (xI X 46 (15 * k + j)))) X) : w_X12_numberOf tb0 [vR (some 42), vI (nI k), vI (nI j)] X K KX :=
  s_numberOf (by rw [nI_toInt (by omega)]; omega) (by rw [nI_toInt (by omega)]; omega) (by rw [nI_toInt (by omega)]; omega) (by rw [nI_toInt (by omega)]; omega) (by rw [nI_clamp (by omega), nI_clamp (by omega)]; exact h)
theorem s_calls (hc : c < 5) (hk : k < 12) (h0 : ¬ (F 45 k = 4 ∧ F 81 (12 * c + k) = 0) → K none (S, F, J, R, nn)) (h1 : F 45 k = 4 → F 81 (12 * c + k) = 0 → K none (S, u2 F 81 (12 * c + k) 1, u2 (u2 J 76 c (J 76 c + (F 46 (15 * k + 14)).toInt64)) 75 c (J 75 c + (F 46 (15 * k + 14)).toInt64), R, nn)) : w_X12_calls tb0 [vR (some 42), vI (nI c), vI (nI k)] (S, F, J, R, nn) K KX := by
  have v5 := vp_in_nI (n := c) (N := 5) hc (by decide)
  refine i_X12_calls ⟨vp_in_nI hk (by decide), ?_⟩
  rw [nI_clamp (by omega), ix12, nI_clamp (by omega)]
  refine ⟨fun z => e_X12_calls_24 (h0 (fun w => z w.1)), fun z => ⟨vp_in_nI (by omega) (by decide), fun z1 => e_X12_calls_25 ?_, fun z1 => e_X12_calls_24 (h0 (fun w => z1 w.2))⟩⟩
  rw [ix12, nI_clamp (by omega), nI_clamp (by omega)]
  refine ⟨vp_in_nI (by omega) (by decide), Or.inr rfl, v5, s_num (j := 14) hk (by decide) (rI_in ⟨v5, v5, s_num (j := 14) hk (by decide) (rI_in ⟨v5, h1 z z1⟩)⟩)⟩
theorem beg_loop {l2 l3 l4 l5 : Int32} (hc : c < 5) (hK : ∀ g : Nat → Int32, (∀ j, g j = if 12 * c ≤ j ∧ j < 12 * c + 12 then 0 else F 81 j) → w_X12_calls tb0 [vR (some 42), vI (nI c), vI l2] (S, u1 F 81 g, J, R, nn) (fun v2 X1 => rV v2 (K none X1)) KX) :
    ∀ (r i : Nat) (g : Nat → Int32), i + r = 12 → (∀ j, g j = if 12 * c ≤ j ∧ j < 12 * c + i then 0 else F 81 j) → r_X12_begins tb0 K KX 183 [some (vR (some 42)), some (vI (nI c)), some (vI l2), some (vI l3), some (vI l4), some (vI l5), some (vI (nI i))] [] (S, u1 F 81 g, J, R, nn) 0 0
  | 0, i, g, hi, hg => by
    have e : i = 12 := by omega
    subst e
    exact e_X12_begins_183 ⟨fun _ => e_X12_begins_209 (hK g hg), fun z => absurd (nI_le (a := 12) (Nat.le_refl _) (by decide)) z⟩
  | r + 1, i, g, hi, hg => by
    refine e_X12_begins_183 ⟨fun z => absurd z (nI_ge (a := i) (b := 12) (by omega) (by decide)), fun _ => ?_⟩
    rw [ix12, nI_1, nI_clamp (by omega)]
    refine ⟨vp_in_nI (by omega) (by decide), Or.inl rfl, ?_⟩
    show r_X12_begins tb0 K KX 183 _ [] (S, u2 (u1 F 81 g) 81 (12 * c + i) 0, J, R, nn) 0 0
    rw [u2_u1]
    refine beg_loop hc hK r (i + 1) _ (by omega) (fun j => ?_)
    by_cases h : j = 12 * c + i
    · subst h; rw [stf_at, if_pos ⟨by omega, by omega⟩]
    · rw [stf_ne _ _ h, hg j]
      by_cases h2 : 12 * c ≤ j ∧ j < 12 * c + i
      · rw [if_pos h2, if_pos ⟨h2.1, by omega⟩]
      · rw [if_neg h2, if_neg (by omega)]
theorem x_beg183 {l2 l3 l4 l5 : Int32} (hc : c < 5) (hK : ∀ g : Nat → Int32, (∀ j, g j = if 12 * c ≤ j ∧ j < 12 * c + 12 then 0 else F 81 j) → w_X12_calls tb0 [vR (some 42), vI (nI c), vI l2] (S, u1 F 81 g, J, R, nn) (fun v2 X1 => rV v2 (K none X1)) KX) : r_X12_begins tb0 K KX 183 [some (vR (some 42)), some (vI (nI c)), some (vI l2), some (vI l3), some (vI l4), some (vI l5), some (vI 0)] [] (S, F, J, R, nn) 0 0 := by
  have z := beg_loop (K := K) (KX := KX) (S := S) (F := F) (J := J) (R := R) (nn := nn) (l2 := l2) (l3 := l3) (l4 := l4) (l5 := l5) hc hK 12 0 (F 81) rfl (fun j => by rw [if_neg (by omega)])
  rw [u1_self] at z
  exact z
set_option maxHeartbeats 4000000 in
theorem s_begins {zone mi se : Int32} (hc : c < 5) (hk : k < 12) (hK : ∀ g : Nat → Int32, (∀ j, g j = if 12 * c ≤ j ∧ j < 12 * c + 12 then 0 else F 81 j) → w_X12_calls tb0 [vR (some 42), vI (nI c), vI (nI k)] (S, bgI F c (nI k) zone (60 * mi + se) (F 46 (15 * k + 1)) g, bgJ J c (F 46 (15 * k + 0)).toInt64, R, nn) (fun v2 X1 => rV v2 (K none X1)) KX) : w_X12_begins tb0 [vR (some 42), vI (nI c), vI (nI k), vI zone, vI mi, vI se] (S, F, J, R, nn) K KX := by
  have v5 := vp_in_nI (n := c) (N := 5) hc (by decide)
  refine i_X12_begins ?_
  rw [nI_clamp (by omega)]
  refine ⟨v5, v5, v5, v5, v5, v5, v5, v5, v5, s_num (j := 1) hk (by decide) (rI_in ⟨v5, v5, v5, v5, v5, v5, v5, s_num (j := 0) hk (by decide) (rI_in ?_)⟩)⟩
  refine ⟨v5, v5, v5, v5, Or.inr rfl, v5, Or.inl rfl, v5, Or.inl rfl, ?_⟩
  exact x_beg183 hc (fun g hg => hK g hg)
end Beg
