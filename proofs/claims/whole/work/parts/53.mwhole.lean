/-! the reference's comparing of limbs -/
theorem j_lt {f g : Nat → Int64} {n i : Nat} (hf : jg f n) (hg : jg g n) (hi : i < n) (h : (f i).toInt < (g i).toInt) : ∀ m, i < m → m ≤ n → (∀ j, i < j → j < m → f j = g j) → jv f m < jv g m
  | 0, h0, _, _ => absurd h0 (Nat.not_lt_zero _)
  | m + 1, h0, h1, h2 => by
    rw [jv, jv]
    by_cases him : i = m
    · subst him
      have q1 := jv_rng (f := f) (n := i) (fun j hj => hf j (by omega))
      have q2 := jv_rng (f := g) (n := i) (fun j hj => hg j (by omega))
      have q3 : ((f i).toInt + 1) * (268435456 : Int) ^ i ≤ (g i).toInt * (268435456 : Int) ^ i := Int.mul_le_mul_of_nonneg_right (by omega) (Int.le_of_lt (C_pos i))
      rw [Int.add_mul, Int.one_mul] at q3
      omega
    · have q1 := j_lt hf hg hi h m (by omega) (by omega) (fun j a b => h2 j a (by omega))
      rw [h2 m (by omega) (by omega)]
      omega
section MCmp
variable {S : Nat → Nat × Nat} {I : Nat → Nat → Int32} {J : Nat → Nat → Int64} {R : Nat → Nat → Option Nat} {nn : Nat} {K : Option AV → AX → Prop} {KX : String → AX → Prop}
theorem isLess_loop (h0 : jg (J 90) 180) (h1 : jg (J 89) 180) (hK : ∀ r : Int32, (r = 1 ∧ jv (J 90) 180 < jv (J 89) 180) ∨ (r = 0 ∧ jv (J 89) 180 ≤ jv (J 90) 180) → K (some (vI r)) (S, I, J, R, nn)) :
    ∀ i : Nat, i ≤ 180 → (∀ j, i ≤ j → j < 180 → J 90 j = J 89 j) → r_X12_isLess tb0 K KX 4 [some (vR (some 90)), some (vR (some 89)), some (vI (nI i + (-1)))] [] (S, I, J, R, nn) 0 0
  | 0, _, he => by
    refine e_X12_isLess_4 ⟨fun _ => e_X12_isLess_40 ⟨Or.inl rfl, hK 0 (Or.inr ⟨rfl, ?_⟩)⟩, fun c => absurd (by decide : nI 0 + (-1) < 0) c⟩
    rw [jv_cong (f := J 89) (g := J 90) (fun j hj => (he j (Nat.zero_le _) hj).symm)]
    exact Int.le_refl _
  | i + 1, hi, he => by
    rw [pk_m1]
    refine e_X12_isLess_4 ⟨fun c => absurd c (nI_pos (by omega)), fun _ => gd_in rfl ⟨vp_in_nI (n := i) (N := 180) (by omega) (by decide), gd_in rfl ⟨vp_in_nI (n := i) (N := 180) (by omega) (by decide), ?_⟩⟩⟩
    rw [nI_clamp (by omega)]
    refine ⟨fun c => e_X12_isLess_34 (isLess_loop h0 h1 hK i (by omega) (fun j a b => ?_)), fun c => gd_in rfl ⟨vp_in_nI (n := i) (N := 180) (by omega) (by decide), gd_in rfl ⟨vp_in_nI (n := i) (N := 180) (by omega) (by decide), fun c1 => e_X12_isLess_32 (e_X12_isLess_33 ⟨Or.inl rfl, hK 0 (Or.inr ⟨rfl, ?_⟩)⟩), fun c1 => e_X12_isLess_33 ⟨Or.inr rfl, hK 1 (Or.inl ⟨rfl, ?_⟩)⟩⟩⟩⟩
    · rcases Nat.lt_or_ge i j with q | q
      · exact he j q b
      · have e : j = i := by omega
        subst e
        exact (lg_cmp_eq _ _).mp c
    · have q1 := (lg_cmp_ge _ _).mp c1
      rw [Int64.le_iff_toInt_le] at q1
      have q2 : ¬ (J 90 i).toInt = (J 89 i).toInt := fun z => c ((lg_cmp_eq _ _).mpr (Int64.toInt_inj.mp z))
      have q1' : (J 89 i).toInt ≤ (J 90 i).toInt := q1
      exact Int.le_of_lt (j_lt h1 h0 (by omega : i < 180) (by omega) 180 (by omega) (Nat.le_refl _) (fun j a b => (he j a b).symm))
    · have q1 : ¬ (J 89 i) ≤ (J 90 i) := fun z => c1 ((lg_cmp_ge _ _).mpr z)
      rw [Int64.le_iff_toInt_le] at q1
      exact j_lt h0 h1 (by omega : i < 180) (by omega) 180 (by omega) (Nat.le_refl _) (fun j a b => he j a b)
theorem s_isLess (h0 : jg (J 90) 180) (h1 : jg (J 89) 180) (hK : ∀ r : Int32, (r = 1 ∧ jv (J 90) 180 < jv (J 89) 180) ∨ (r = 0 ∧ jv (J 89) 180 ≤ jv (J 90) 180) → K (some (vI r)) (S, I, J, R, nn)) : w_X12_isLess tb0 [vR (some 90), vR (some 89)] (S, I, J, R, nn) K KX :=
  i_X12_isLess (isLess_loop h0 h1 hK 180 (Nat.le_refl _) (fun j a b => absurd b (by omega)))
theorem isAlike_loop (hK : ∀ r : Int32, (r = 1 ∧ jv (J 89) 180 = jv (J 90) 180) ∨ (r = 0 ∧ ∃ i, i < 180 ∧ ¬ J 89 i = J 90 i) → K (some (vI r)) (S, I, J, R, nn)) :
    ∀ r i : Nat, i + r = 180 → (∀ j, j < i → J 89 j = J 90 j) → r_X12_isAlike tb0 K KX 2 [some (vR (some 42)), some (vI (nI i))] [] (S, I, J, R, nn) 0 0
  | 0, i, hi, he => by
    have e : i = 180 := by omega
    subst e
    exact e_X12_isAlike_2 ⟨fun _ => e_X12_isAlike_33 ⟨Or.inr rfl, hK 1 (Or.inl ⟨rfl, jv_cong he⟩)⟩, fun c => absurd (nI_le (a := 180) (Nat.le_refl _) (by decide)) c⟩
  | r + 1, i, hi, he => by
    refine e_X12_isAlike_2 ⟨fun c => absurd c (nI_ge (a := i) (b := 180) (by omega) (by decide)), fun _ => ⟨vp_in_nI (by omega) (by decide), vp_in_nI (by omega) (by decide), ?_⟩⟩
    rw [nI_clamp (by omega)]
    refine ⟨fun c => e_X12_isAlike_27 ?_, fun c => ⟨Or.inl rfl, hK 0 (Or.inr ⟨rfl, i, by omega, fun z => c ((lg_cmp_eq _ _).mpr z)⟩)⟩⟩
    rw [nI_1]
    exact isAlike_loop hK r (i + 1) (by omega) (lt_s he ((lg_cmp_eq _ _).mp c))
theorem s_isAlike (hK : ∀ r : Int32, (r = 1 ∧ jv (J 89) 180 = jv (J 90) 180) ∨ (r = 0 ∧ ∃ i, i < 180 ∧ ¬ J 89 i = J 90 i) → K (some (vI r)) (S, I, J, R, nn)) : w_X12_isAlike tb0 [vR (some 42)] (S, I, J, R, nn) K KX :=
  i_X12_isAlike (isAlike_loop hK 180 0 rfl (fun j hj => absurd hj (Nat.not_lt_zero _)))
end MCmp
theorem j_ne {f g : Nat → Int64} : ∀ {n : Nat}, jg f n → jg g n → jv f n = jv g n → ∀ i, i < n → f i = g i
  | 0, _, _, _, i, hi => absurd hi (Nat.not_lt_zero _)
  | n + 1, hf, hg, he, i, hi => by
    have q : f n = g n := by
      rcases Int.lt_trichotomy (f n).toInt (g n).toInt with q | q | q
      · have := j_lt hf hg (by omega : n < n + 1) q (n + 1) (by omega) (Nat.le_refl _) (fun j a b => absurd b (by omega)); omega
      · exact Int64.toInt_inj.mp q
      · have := j_lt hg hf (by omega : n < n + 1) q (n + 1) (by omega) (Nat.le_refl _) (fun j a b => absurd b (by omega)); omega
    rw [jv, jv, q] at he
    by_cases e : i = n
    · subst e; exact q
    · exact j_ne (n := n) (fun j hj => hf j (by omega)) (fun j hj => hg j (by omega)) (by omega) i (by omega)
/-! sums of parts -/
theorem fD_pos {f g : Nat → Int64} : ∀ {n : Nat}, goodP f g n → 0 < fD g n
  | 0, _ => by simp [fD]
  | n + 1, h => by
    rw [fD]
    have := h n (by omega)
    exact Int.mul_pos (fD_pos (fun k hk => h k (by omega))) (by omega)
theorem fN_rng {f g : Nat → Int64} : ∀ {n : Nat}, goodP f g n → 0 ≤ fN' f g n ∧ fN' f g n ≤ n * fD g n ∧ (0 < n → fN' f g n < n * fD g n)
  | 0, _ => by simp [fN', fD]
  | n + 1, h => by
    obtain ⟨h1, h2, -⟩ := fN_rng (f := f) (g := g) (n := n) (fun k hk => h k (by omega))
    have hp := fD_pos (f := f) (g := g) (n := n) (fun k hk => h k (by omega))
    obtain ⟨a, b, c⟩ := h n (by omega)
    rw [fN', fD]
    have q1 : 0 ≤ fN' f g n * (g n).toInt := Int.mul_nonneg h1 (by omega)
    have q2 : fN' f g n * (g n).toInt ≤ n * fD g n * (g n).toInt := Int.mul_le_mul_of_nonneg_right h2 (by omega)
    have q3 : 0 ≤ fD g n * (f n).toInt := Int.mul_nonneg (by omega) a
    have q4 : fD g n * (f n).toInt < fD g n * (g n).toInt := Int.mul_lt_mul_of_pos_left b hp
    have q5 : ((n + 1 : Nat) : Int) * (fD g n * (g n).toInt) = n * fD g n * (g n).toInt + fD g n * (g n).toInt := by
      rw [Int.natCast_add, Int.add_mul, Int.mul_assoc]; omega
    rw [q5]
    exact ⟨by omega, by omega, fun _ => by omega⟩
theorem fD_le {f g : Nat → Int64} : ∀ {n : Nat}, goodP f g n → fD g n ≤ (268435456 : Int) ^ n
  | 0, _ => by simp [fD]
  | n + 1, h => by
    have h1 := fD_le (f := f) (g := g) (n := n) (fun k hk => h k (by omega))
    have hp := fD_pos (f := f) (g := g) (n := n) (fun k hk => h k (by omega))
    obtain ⟨a, b, c⟩ := h n (by omega)
    rw [fD, Int.pow_succ]
    have q1 : fD g n * (g n).toInt ≤ fD g n * 268435456 := Int.mul_le_mul_of_nonneg_left (by omega) (by omega)
    have q2 : fD g n * 268435456 ≤ (268435456 : Int) ^ n * 268435456 := Int.mul_le_mul_of_nonneg_right h1 (by omega)
    omega
theorem pow_big {n : Nat} (hn : n ≤ 171) : (268435456 : Int) ^ n * 200 < (268435456 : Int) ^ 179 := by
  have h1 : (268435456 : Int) ^ n ≤ (268435456 : Int) ^ 171 := by
    obtain ⟨d, hd⟩ : ∃ d, 171 = n + d := ⟨171 - n, by omega⟩
    rw [hd, Int.pow_add]
    have h3 : (268435456 : Int) ^ n * 1 ≤ (268435456 : Int) ^ n * (268435456 : Int) ^ d := Int.mul_le_mul_of_nonneg_left (C_pos d) (Int.le_of_lt (C_pos n))
    rw [Int.mul_one] at h3
    exact h3
  have h2 : (268435456 : Int) ^ 171 * 200 < (268435456 : Int) ^ 179 := by decide
  omega
/-- the quick sum -/
def fQ (f g : Nat → Int64) : Nat → Int
  | 0 => 0
  | n + 1 => fQ f g n + (f n).toInt * 17179869184 / (g n).toInt
theorem fQ_ok {f g : Nat → Int64} : ∀ {n : Nat}, goodP f g n → 0 ≤ fQ f g n ∧ fQ f g n ≤ n * 17179869184 ∧ fQ f g n * fD g n ≤ fN' f g n * 17179869184 ∧ fN' f g n * 17179869184 ≤ (fQ f g n + n) * fD g n ∧ (0 < n → fN' f g n * 17179869184 < (fQ f g n + n) * fD g n)
  | 0, _ => by simp [fQ, fN', fD]
  | n + 1, h => by
    obtain ⟨h1, h2, h3, h4, -⟩ := fQ_ok (f := f) (g := g) (n := n) (fun k hk => h k (by omega))
    have hp := fD_pos (f := f) (g := g) (n := n) (fun k hk => h k (by omega))
    obtain ⟨a, b, c⟩ := h n (by omega)
    have hg0 : 0 < (g n).toInt := by omega
    have q0 : 0 ≤ (f n).toInt * 17179869184 / (g n).toInt := Int.ediv_nonneg (by omega) (by omega)
    have q1 : (f n).toInt * 17179869184 / (g n).toInt < 17179869184 := Int.ediv_lt_of_lt_mul hg0 (by rw [Int.mul_comm 17179869184]; omega)
    have q2 := Int.mul_ediv_add_emod ((f n).toInt * 17179869184) (g n).toInt
    have q3 := Int.emod_nonneg ((f n).toInt * 17179869184) (show (g n).toInt ≠ 0 by omega)
    have q4 := Int.emod_lt_of_pos ((f n).toInt * 17179869184) hg0
    rw [fQ, fN', fD]
    generalize (f n).toInt * 17179869184 / (g n).toInt = q at *
    generalize (f n).toInt * 17179869184 % (g n).toInt = r at *
    have e1 : (fQ f g n + q) * (fD g n * (g n).toInt) = fQ f g n * fD g n * (g n).toInt + fD g n * ((g n).toInt * q) := by grind
    have e2 : (fN' f g n * (g n).toInt + fD g n * (f n).toInt) * 17179869184 = fN' f g n * 17179869184 * (g n).toInt + fD g n * ((f n).toInt * 17179869184) := by grind
    have e3 : (fQ f g n + q + ((n + 1 : Nat) : Int)) * (fD g n * (g n).toInt) = (fQ f g n + n) * fD g n * (g n).toInt + fD g n * ((g n).toInt * q + (g n).toInt) := by
      rw [Int.natCast_add]; grind
    have u1 : fQ f g n * fD g n * (g n).toInt ≤ fN' f g n * 17179869184 * (g n).toInt := Int.mul_le_mul_of_nonneg_right h3 (by omega)
    have u2 : fN' f g n * 17179869184 * (g n).toInt ≤ (fQ f g n + n) * fD g n * (g n).toInt := Int.mul_le_mul_of_nonneg_right h4 (by omega)
    have u3 : fD g n * ((g n).toInt * q) ≤ fD g n * ((f n).toInt * 17179869184) := Int.mul_le_mul_of_nonneg_left (by omega) (by omega)
    have u4 : fD g n * ((f n).toInt * 17179869184) < fD g n * ((g n).toInt * q + (g n).toInt) := Int.mul_lt_mul_of_pos_left (by omega) hp
    rw [e1, e2, e3]
    refine ⟨by omega, ?_, by omega, by omega, fun _ => by omega⟩
    rw [Int.natCast_add, Int.add_mul]; omega
theorem fl_eq {a b q : Int} (hb : 0 < b) (h1 : q * b ≤ a) (h2 : a < (q + 1) * b) : a / b = q := by
  have e := Int.mul_ediv_add_emod a b
  have r0 := Int.emod_nonneg a (show b ≠ 0 by omega)
  have r1 := Int.emod_lt_of_pos a hb
  rcases Int.lt_trichotomy (a / b) q with z | z | z
  · have : b * (a / b + 1) ≤ b * q := Int.mul_le_mul_of_nonneg_left (by omega) (by omega)
    rw [Int.mul_add, Int.mul_one, Int.mul_comm b q] at this; omega
  · exact z
  · have : b * (q + 1) ≤ b * (a / b) := Int.mul_le_mul_of_nonneg_left (by omega) (by omega)
    rw [Int.mul_comm b (q + 1)] at this; omega
theorem fQ_fl {f g : Nat → Int64} {n : Nat} (h : goodP f g n) (hq : fQ f g n % 17179869184 + n ≤ 17179869184) : fN' f g n / fD g n = fQ f g n / 17179869184 := by
  obtain ⟨h1, h2, h3, h4, h5⟩ := fQ_ok h
  have hp := fD_pos h
  have e := Int.mul_ediv_add_emod (fQ f g n) 17179869184
  refine fl_eq hp ?_ ?_
  · have u1 : 17179869184 * (fQ f g n / 17179869184) * fD g n ≤ fQ f g n * fD g n := Int.mul_le_mul_of_nonneg_right (by omega) (by omega)
    rw [Int.mul_assoc] at u1; omega
  · rcases Nat.eq_zero_or_pos n with z | z
    · subst z
      have z1 : fN' f g 0 = 0 := rfl
      have z2 : fD g 0 = 1 := rfl
      have z3 : fQ f g 0 = 0 := rfl
      rw [z1, z2, z3]; decide
    · have u1 := h5 z
      have u2 : (fQ f g n + n) * fD g n ≤ (17179869184 * (fQ f g n / 17179869184 + 1)) * fD g n := Int.mul_le_mul_of_nonneg_right (by omega) (by omega)
      rw [Int.mul_assoc] at u2; omega
