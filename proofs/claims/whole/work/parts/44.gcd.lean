section Gcd
variable {X : AX} {K : Option AV → AX → Prop} {KX : String → AX → Prop} {l0 l1 : Int32}
theorem gcd_loop {D : Nat} (hK : K (some (vI (nI D))) X) : ∀ (r k A B : Nat) (o : Option Int32), k + r = 64 → 0 < A → A < 2 ^ 31 → B ≤ A → Nat.gcd A B = D → A * B * 2 ^ k < 2 ^ 62 →
    r_X7_commonDivisor tb0 K KX 7 [some (vI l0), some (vI l1), some (vI (nI A)), some (vI (nI B)), some (vI (nI k)), o.map vI] [] X 0 0
  | 0, k, A, B, o, hk, hA, hA2, hB, hg, hm => by
    have e : k = 64 := by omega
    subst e
    have hB0 : B = 0 := by
      rcases Nat.eq_zero_or_pos B with h | h
      · exact h
      · have : 1 * 2 ^ 64 ≤ A * B * 2 ^ 64 := Nat.mul_le_mul_right _ (Nat.mul_pos hA h)
        omega
    subst hB0
    rw [Nat.gcd_zero_right] at hg
    subst hg
    cases o with
    | none => exact e_X7_commonDivisor_7 ⟨fun _ => e_X7_commonDivisor_34 hK, fun h => absurd (by decide) h⟩
    | some o => exact e_X7_commonDivisor_7b ⟨fun _ => e_X7_commonDivisor_34b hK, fun h => absurd (by decide) h⟩
  | r + 1, k, A, B, o, hk, hA, hA2, hB, hg, hm => by
    have h64 : ¬ (64 : Int32) ≤ nI k := nI_ge (show k < 64 by omega) (by decide)
    have hz : nI B = 0 → B = 0 := fun h => (nI_eq (by omega) (by decide)).mp (h.trans nI_0.symm)
    have hn : ¬ nI B = 0 → 0 < B := fun h => by
      rcases Nat.eq_zero_or_pos B with q | q
      · subst q; exact absurd nI_0 h
      · exact q
    have hrem : 0 < B → nI A - nI A / nI B * nI B = nI (A % B) := fun h => by
      apply Int32.toInt_inj.mp
      have hm := Nat.mod_lt A h
      rw [n_rem (by rw [nI_toInt hA2]; omega) (by rw [nI_toInt (by omega)]; omega), nI_toInt hA2, nI_toInt (by omega), nI_toInt (by omega)]
      exact (Int.natCast_emod A B).symm
    have hrec : 0 < B → r_X7_commonDivisor tb0 K KX 7 [some (vI l0), some (vI l1), some (vI (nI B)), some (vI (nI A - nI A / nI B * nI B)), some (vI (nI k + 1)), some (vI (nI A - nI A / nI B * nI B))] [] X 0 0 := fun h => by
      rw [hrem h, nI_1]
      have hlt := Nat.mod_lt A h
      have hdm := Nat.div_add_mod A B
      have hq : 1 ≤ A / B := (Nat.le_div_iff_mul_le h).mpr (by omega)
      have h2 : B * 1 ≤ B * (A / B) := Nat.mul_le_mul_left B hq
      have h3 : 2 * (A % B) ≤ A := by omega
      refine gcd_loop hK r (k + 1) B (A % B) (some (nI (A % B))) (by omega) h (by omega) (by omega) ?_ ?_
      · rw [Nat.gcd_comm B, ← Nat.gcd_rec, Nat.gcd_comm]; exact hg
      · have h4 : B * (A % B) * 2 ^ (k + 1) = B * (2 * (A % B)) * 2 ^ k := by
          rw [Nat.pow_succ, Nat.mul_assoc, Nat.mul_assoc, Nat.mul_comm (2 ^ k) 2, ← Nat.mul_assoc (A % B), Nat.mul_comm (A % B) 2]
        rw [h4]
        refine Nat.lt_of_le_of_lt (Nat.mul_le_mul_right _ (Nat.mul_le_mul_left B h3)) ?_
        rw [Nat.mul_comm B A]; exact hm
    have h0 : nI B = 0 → K (some (vI (nI A))) X := fun h => by
      have e := hz h
      subst e
      rw [Nat.gcd_zero_right] at hg
      subst hg
      exact hK
    cases o with
    | none => exact e_X7_commonDivisor_7 ⟨fun h => absurd h h64, fun _ => ⟨fun h => e_X7_commonDivisor_34 (h0 h), fun h => ⟨h, hrec (hn h)⟩⟩⟩
    | some o => exact e_X7_commonDivisor_7b ⟨fun h => absurd h h64, fun _ => ⟨fun h => e_X7_commonDivisor_34b (h0 h), fun h => ⟨h, hrec (hn h)⟩⟩⟩
theorem s_commonDivisor {A B : Nat} (hA : 0 < A) (hA2 : A < 2 ^ 31) (hB : B ≤ A) (hK : K (some (vI (nI (Nat.gcd A B)))) X) : w_X7_commonDivisor tb0 [vI (nI A), vI (nI B)] X K KX := by
  refine i_X7_commonDivisor ?_
  have h := gcd_loop (l0 := nI A) (l1 := nI B) (KX := KX) hK 64 0 A B none (by omega) hA hA2 hB rfl (by
    have h1 : A * B ≤ (2 ^ 31 - 1) * (2 ^ 31 - 1) := Nat.mul_le_mul (by omega) (by omega)
    rw [Nat.pow_zero, Nat.mul_one]
    omega)
  rw [nI_0] at h
  exact h
end Gcd
