/-! a meter that has just started agrees with the reference's -/
theorem eOf_bnd {q : Nat} {x : Int32} (h : 0 ≤ x.toInt ∧ x.toInt ≤ 10000) : 0 ≤ (eOf q x).toInt ∧ (eOf q x).toInt ≤ 10000 := by
  unfold eOf
  by_cases c : q = 4
  · rw [if_pos c]; exact h
  · rw [if_neg c]; decide
theorem mAll_new {t n m c k q : Nat} {Y : AX} {tm w rd n1 e : Int32} {fr : Int64} (hkn : k < n) (hn : n ≤ 12) (hq : q < 5) (htm : bnd tm 0 86399) (hw : bnd w 1 200) (hrd : bnd rd 1 10000) (he : 0 ≤ e.toInt ∧ e.toInt ≤ 10000) (hkd : xI Y 45 k = nI q)
    (c2 : xI Y m 2 = tm) (c3 : xI Y m 3 = w) (c4 : xI Y m 4 = 0) (c7 : xI Y m 7 = 0) (c8 : xI Y m 8 = n1 - 1) (c9 : xI Y m 9 = 0 + e) (c10 : xI Y m 10 = 0) (c11 : xI Y m 11 = 0 ||| mkB k) (c12 : xI Y m 12 = 0) (c13 : xI Y m 13 = 0) (c14 : xI Y m 14 = 1) (c5 : xJ Y m 5 = 0) (c6 : xJ Y m 6 = fr) (cP : Pt (m + 1) Y 0 1) (cR : xR Y m 1 = xR Y 8 k)
    (d59 : xI Y 59 c = 0) (d62 : xI Y 62 c = tm) (d63 : xI Y 63 c = nI k) (d64 : xI Y 64 c = nI k) (d65 : xI Y 65 c = rd) (d66 : xI Y 66 c = w) (d67 : xI Y 67 c = 0) (d68 : xI Y 68 c = n1 - 1) (d69 : xI Y 69 c = 0) (d70 : xI Y 70 c = 0) (d72 : xI Y 72 c = 0) (d73 : xI Y 73 c = 0) (d74 : xJ Y 74 c = 0) (d75 : xJ Y 75 c = fr) (d76 : xJ Y 76 c = e.toInt64) (d77 : xJ Y 77 c = 0) (d81 : ∀ i, i < 12 → xI Y 81 (12 * c + i) = if i = k ∧ q = 4 then 1 else 0) : mAll t n m c Y := by
  have kk : (nI k).toInt = k := nI_toInt (by omega)
  have kc : (nI k).toNatClampNeg = k := nI_clamp (by omega)
  have e0 : (0 : Int32) + e = e := Int32.zero_add e
  have z0 : (0 : Int32).toNatClampNeg = 0 := by decide
  refine ⟨⟨d62.trans c2.symm, by rw [c2]; exact htm, d66.trans c3.symm, by rw [c3]; exact hw, d59.trans c4.symm, ?_, by rw [d65]; exact hrd, ?_, d75.trans c6.symm, d67.trans c7.symm, d68.trans c8.symm, ?_, ?_, ?_, ?_, d70.trans c12.symm, ?_, d69.trans c13.symm, ?_, ?_, Or.inr c14, by rw [c7]; decide, by rw [c7, c4]; decide⟩, ⟨?_, ?_, ?_⟩, fun i hi => ⟨fun z => ⟨?_, ?_⟩, fun z z4 => ?_, ?_⟩, ⟨fun i hi => ?_, ?_⟩, fun i hi => ?_, 0, 1, ⟨cP, by decide +kernel, 0, by decide, d73, fun i hi => absurd hi (Nat.not_lt_zero _), ?_, ?_⟩, ⟨Int.one_dvd _, fun i hi => ?_, fun i j hi hj => ?_⟩⟩
  · rw [c4]; exact ⟨by decide, by decide⟩
  · rw [c5, d74]; exact (Int64.zero_mul).symm
  · rw [d76, c9, e0]
  · rw [c9, e0]; exact ⟨he.1, by omega⟩
  · rw [d77, c10]; rfl
  · rw [c10]; exact ⟨by decide, by show (0 : Int32).toInt ≤ _; rw [z32]; omega⟩
  · rw [c12]; exact ⟨by decide, by decide⟩
  · rw [c13]; decide
  · rw [c13, c4]; exact Int.le_refl _
  · rw [d64]; exact ⟨by rw [kk]; omega, by rw [kk]; omega⟩
  · rw [d64, kc]; exact cR
  · rw [d63]; exact ⟨by rw [kk]; omega, by rw [kk]; omega⟩
  · rw [c11, mkB_or (by omega)]
    have : ¬ i = k := by omega
    simp [this, bitc]
  · rw [d81 i hi, if_neg (by omega)]
  · rw [d81 i hi, c11, mkB_or (by omega)]
    by_cases h : i = k
    · subst h
      have hq4 : q = 4 := by
        rw [hkd] at z4
        exact (nI_eq (b := 4) (by omega) (by decide)).mp z4
      rw [if_pos ⟨rfl, hq4⟩, if_pos (by simp)]
    · rw [if_neg (fun z => h z.1), if_neg (by simp [h, bitc])]
  · rw [d81 i hi]
    by_cases h : i = k ∧ q = 4
    · rw [if_pos h]; exact Or.inr rfl
    · rw [if_neg h]; exact Or.inl rfl
  · rw [c12, z0] at hi; exact absurd hi (Nat.not_lt_zero _)
  · rw [c12, z0, d64]
    show nI k = xI Y 63 c
    rw [d63]
  · rw [c13, z0] at hi; exact absurd hi (Nat.not_lt_zero _)
  · rw [d72]; show (0 : Int) * 1 = ((0 : Int32).toInt * 1 + 0) * 1; decide
  · rw [d72]; exact ⟨by decide, by decide⟩
  · rw [d73, z0] at hi; exact absurd hi (Nat.not_lt_zero _)
  · rw [d73, z0] at hj; exact absurd hj (Nat.not_lt_zero _)
