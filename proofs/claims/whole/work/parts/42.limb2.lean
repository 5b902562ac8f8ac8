/-- one limb of a times -/
theorem limb_mul {c : Int64} {y f : Int32} (hc : 0 ≤ c.toInt ∧ c.toInt ≤ 4294967296) (hy : 0 ≤ y.toInt ∧ y.toInt < 1073741824) (hf : 0 ≤ f.toInt) :
    ∃ t : Int, t = c.toInt + y.toInt * f.toInt ∧ (Int64.toInt32 ((c + Int32.toInt64 y * Int32.toInt64 f) &&& 1073741823)).toInt = t % 1073741824 ∧ ((c + Int32.toInt64 y * Int32.toInt64 f) >>> (Int32.toInt64 30 &&& 63)).toInt = t / 1073741824 ∧ 0 ≤ t / 1073741824 ∧ t / 1073741824 ≤ 4294967296 := by
  have hf2 := n_rng f
  have hm := mul_bd (x := f.toInt) (y := y.toInt) (A := 2147483648) (C := 1073741824) ⟨by omega, by omega⟩ ⟨hy.1, by omega⟩
  rw [Int.mul_comm f.toInt] at hm
  have hm0 : 0 ≤ y.toInt * f.toInt := Int.mul_nonneg hy.1 hf
  have e1 : (Int32.toInt64 y * Int32.toInt64 f).toInt = y.toInt * f.toInt := by
    rw [n_mulL] <;> rw [n_i2l, n_i2l] <;> omega
  have e3 : (c + Int32.toInt64 y * Int32.toInt64 f).toInt = c.toInt + y.toInt * f.toInt := by
    rw [n_addL] <;> rw [e1] <;> omega
  refine ⟨_, rfl, ?_, ?_, ?_, ?_⟩
  · rw [n_l2i] <;> rw [n_mask30, e3] <;> omega
  · rw [n_shr30, e3]
  · omega
  · omega
section Mul
variable {a b la lb n : Nat} {S : Nat → Nat × Nat} {F : Nat → Nat → Int32} {J : Nat → Nat → Int64} {R : Nat → Nat → Option Nat} {nn : Nat} {fac : Int32} {K : Option AV → AX → Prop} {KX : String → AX → Prop}
theorem multiply_loop (h4 : 4 ≤ a) (hsa : ∀ I, shp tb0 (S, I, J, R, nn) a = (1, la)) (hla : n ≤ la ∧ la < 2 ^ 31) (hf : 0 ≤ fac.toInt) (hga : lg (F a) n)
    (hK : ∀ g c, lg g n → lv g n + c * (1073741824 : Int) ^ n = fac.toInt * lv (F a) n → (∀ i, n ≤ i → g i = F a i) → K none (S, u1 F a g, J, R, nn)) :
    ∀ (r i : Nat) (g : Nat → Int32) (c : Int64), i + r = n → lg g i → (∀ j, i ≤ j → g j = F a j) → (0 ≤ c.toInt ∧ c.toInt ≤ 4294967296) → lv g i + c.toInt * (1073741824 : Int) ^ i = fac.toInt * lv (F a) i →
      r_X7_multiply tb0 K KX 5 [some (vR (some a)), some (vI (nI n)), some (vI fac), some (vL c), none, some (vI (nI i))] [] (S, u1 F a g, J, R, nn) 0 0
  | 0, i, g, c, hi, hg, hk, hc, hv => by
    have e : i = n := by omega
    subst e
    exact e_X7_multiply_5 ⟨fun _ => e_X7_multiply_50 (hK g c.toInt hg hv hk), fun h => absurd (nI_le (Nat.le_refl i) (by omega)) h⟩
  | r + 1, i, g, c, hi, hg, hk, hc, hv => by
    have hin : i < n := by omega
    have hfa : u1 F a g a = g := u1_at _ _ _
    refine e_X7_multiply_5 ⟨fun h => absurd h (nI_ge hin (by omega)), fun _ => ?_⟩
    rw [hsa]
    refine gd_in (show (0 : Nat) < 1 ∧ (1 : Nat) < 6 from by decide) ⟨fun h => absurd h (nI_ge (show i < la by omega) (by omega)), fun _ => gd_in rfl ⟨vp_in_nI (by omega) (by omega), gd_in ⟨h4, rfl⟩ ⟨vp_in_nI (by omega) (by omega), ?_⟩⟩⟩
    rw [nI_clamp (by omega)]
    show r_X7_multiply tb0 K KX 5 [some (vR (some a)), some (vI (nI n)), some (vI fac), some (vL ((c + Int32.toInt64 (u1 F a g a i) * Int32.toInt64 fac) >>> (Int32.toInt64 30 &&& 63))), none, some (vI (nI i + 1))] [] (S, u2 (u1 F a g) a i (Int64.toInt32 ((c + Int32.toInt64 (u1 F a g a i) * Int32.toInt64 fac) &&& 1073741823)), J, R, nn) 0 0
    rw [hfa, u2_u1, nI_1]
    have hgi : g i = F a i := hk i (Nat.le_refl i)
    obtain ⟨t, ht, e1, e2, b1, b2⟩ := limb_mul (c := c) (y := g i) (f := fac) hc (by rw [hgi]; exact hga i hin) hf
    refine multiply_loop h4 hsa hla hf hga hK r (i + 1) _ _ (by omega) (fun j hj => ?_) (fun j hj => ?_) (by rw [e2]; exact ⟨b1, b2⟩) ?_
    · by_cases hji : j = i
      · subst hji; rw [stf_at, e1]; omega
      · rw [stf_ne _ _ hji]; exact hg j (by omega)
    · rw [stf_ne _ _ (by omega)]; exact hk j (by omega)
    · have h1 : lv (stf g i (Int64.toInt32 ((c + Int32.toInt64 (g i) * Int32.toInt64 fac) &&& 1073741823))) i = lv g i := lv_cong fun j hj => stf_ne _ _ (by omega)
      rw [lv, lv, h1, stf_at, e1, e2, Int.pow_succ, ← hgi]
      have h3 : t % 1073741824 + 1073741824 * (t / 1073741824) = t := by omega
      generalize (1073741824 : Int) ^ i = B at *
      have h4 : t % 1073741824 * B + t / 1073741824 * (B * 1073741824) = t * B := by
        have : t / 1073741824 * (B * 1073741824) = (1073741824 * (t / 1073741824)) * B := by
          rw [Int.mul_comm B 1073741824, ← Int.mul_assoc, Int.mul_comm (t / 1073741824) 1073741824]
        rw [this, ← Int.add_mul, h3]
      have h5 : t * B = c.toInt * B + fac.toInt * ((g i).toInt * B) := by
        rw [ht, Int.add_mul, ← Int.mul_assoc, Int.mul_comm fac.toInt]
      rw [Int.mul_add]
      omega
theorem s_multiply (h4 : 4 ≤ a) (hsa : ∀ I, shp tb0 (S, I, J, R, nn) a = (1, la)) (hla : n ≤ la ∧ la < 2 ^ 31) (hf : 0 ≤ fac.toInt) (hga : lg (F a) n) (hT : fac.toInt * lv (F a) n < (1073741824 : Int) ^ n)
    (hK : ∀ g, lg g n → lv g n = fac.toInt * lv (F a) n → (∀ i, n ≤ i → g i = F a i) → K none (S, u1 F a g, J, R, nn)) :
    w_X7_multiply tb0 [vR (some a), vI (nI n), vI fac] (S, F, J, R, nn) K KX := by
  refine i_X7_multiply ?_
  have h := multiply_loop (a := a) (la := la) (n := n) (S := S) (F := F) (J := J) (R := R) (nn := nn) (fac := fac) (K := K) (KX := KX) h4 hsa hla hf hga (fun g c hg hv hk => ?_) n 0 (F a) 0 (by omega) (fun j hj => absurd hj (by omega)) (fun _ _ => rfl) (by decide) (by simp [lv])
  · rw [u1_self, nI_0] at h; exact h
  · have hr := lv_rng hg
    have hp := B_pos n
    have h0 : 0 ≤ fac.toInt * lv (F a) n := Int.mul_nonneg hf (lv_rng hga).1
    have hc : c = 0 := by
      rcases Int.lt_trichotomy c 0 with h | h | h
      · have h1 : c * (1073741824 : Int) ^ n ≤ -1 * (1073741824 : Int) ^ n := Int.mul_le_mul_of_nonneg_right (by omega) (Int.le_of_lt hp)
        omega
      · exact h
      · have h1 : 1 * (1073741824 : Int) ^ n ≤ c * (1073741824 : Int) ^ n := Int.mul_le_mul_of_nonneg_right (by omega) (Int.le_of_lt hp)
        omega
    subst hc
    exact hK g hg (by omega) hk
/-- the order of two rows of limbs is that of their highest limb that differs -/
theorem limb_lt {f g : Nat → Int32} {n i : Nat} (hf : lg f n) (hg : lg g n) (hi : i < n) (h : (f i).toInt < (g i).toInt) : ∀ m, i < m → m ≤ n → (∀ j, i < j → j < m → f j = g j) → lv f m < lv g m
  | 0, h1, _, _ => by omega
  | m + 1, h1, h2, h3 => by
    rcases Nat.lt_or_ge i m with q | q
    · have ih := limb_lt hf hg hi h m q (by omega) (fun j a b => h3 j a (by omega))
      rw [lv, lv, h3 m q (by omega)]; omega
    · have e : i = m := by omega
      subst e
      obtain ⟨a1, a2⟩ := lv_rng (f := f) (n := i) (fun j hj => hf j (by omega))
      obtain ⟨b1, b2⟩ := lv_rng (f := g) (n := i) (fun j hj => hg j (by omega))
      have hp := B_pos i
      have h5 : ((f i).toInt + 1) * (1073741824 : Int) ^ i ≤ (g i).toInt * (1073741824 : Int) ^ i := Int.mul_le_mul_of_nonneg_right (by omega) (Int.le_of_lt hp)
      rw [Int.add_mul] at h5
      rw [lv, lv]; omega
theorem compare_loop (hsa : ∀ I, shp tb0 (S, I, J, R, nn) a = (1, la)) (hsb : ∀ I, shp tb0 (S, I, J, R, nn) b = (1, lb)) (hla : n ≤ la ∧ la < 2 ^ 31) (hlb : n ≤ lb ∧ lb < 2 ^ 31) (hga : lg (F a) n) (hgb : lg (F b) n) {l2 : Int32}
    (hK : ∀ r : Int32, (r = -1 ∧ lv (F a) n < lv (F b) n) ∨ (r = 0 ∧ lv (F a) n = lv (F b) n) ∨ (r = 1 ∧ lv (F b) n < lv (F a) n) → K (some (vI r)) (S, F, J, R, nn)) :
    ∀ (i : Nat), i ≤ n → (∀ j, i ≤ j → j < n → F a j = F b j) → r_X7_compare tb0 K KX 14 [some (vR (some a)), some (vR (some b)), some (vI l2), some (vI (nI i - 1))] [] (S, F, J, R, nn) 0 0
  | 0, hi, he => by
    refine e_X7_compare_14 ⟨fun _ => e_X7_compare_48 (hK 0 (Or.inr (Or.inl ⟨rfl, lv_cong fun j hj => he j (by omega) hj⟩))), fun h => absurd (by decide) h⟩
  | i + 1, hi, he => by
    rw [nI_pred]
    refine e_X7_compare_14 ⟨fun h => absurd h (nI_pos (by omega)), fun _ => ?_⟩
    rw [hsa, hsb, nI_clamp (by omega)]
    refine gd_in rfl ⟨vp_in_nI (by omega) (by omega), gd_in rfl ⟨vp_in_nI (by omega) (by omega), fun h => e_X7_compare_42 ?_, fun h => ?_⟩⟩
    · rw [show nI i + (-1) = nI i - 1 from (Int32.sub_eq_add_neg (nI i) 1).symm]
      exact compare_loop hsa hsb hla hlb hga hgb hK i (by omega) (fun j h1 h2 => by
        rcases Nat.lt_or_ge i j with q | q
        · exact he j q h2
        · have e : j = i := by omega
          subst e; exact h)
    · refine gd_in rfl ⟨vp_in_nI (by omega) (by omega), gd_in rfl ⟨vp_in_nI (by omega) (by omega), fun h2 => e_X7_compare_40 (e_X7_compare_41 (hK 1 (Or.inr (Or.inr ⟨rfl, ?_⟩)))), fun h2 => e_X7_compare_41 (hK (-1) (Or.inl ⟨rfl, ?_⟩))⟩⟩
      · have h3 : (F b i).toInt ≤ (F a i).toInt := Int32.le_iff_toInt_le.mp h2
        have h4 : (F b i).toInt ≠ (F a i).toInt := fun q => h (Int32.toInt_inj.mp q.symm)
        exact limb_lt hgb hga (show i < n by omega) (by omega) n (by omega) (Nat.le_refl n) (fun j a1 a2 => (he j (by omega) a2).symm)
      · have h3 : ¬ (F b i).toInt ≤ (F a i).toInt := fun q => h2 (Int32.le_iff_toInt_le.mpr q)
        exact limb_lt hga hgb (show i < n by omega) (by omega) n (by omega) (Nat.le_refl n) (fun j a1 a2 => he j (by omega) a2)
theorem s_compare (hsa : ∀ I, shp tb0 (S, I, J, R, nn) a = (1, la)) (hsb : ∀ I, shp tb0 (S, I, J, R, nn) b = (1, lb)) (hla : n ≤ la ∧ la < 2 ^ 31) (hlb : n ≤ lb ∧ lb < 2 ^ 31) (hga : lg (F a) n) (hgb : lg (F b) n)
    (hK : ∀ r : Int32, (r = -1 ∧ lv (F a) n < lv (F b) n) ∨ (r = 0 ∧ lv (F a) n = lv (F b) n) ∨ (r = 1 ∧ lv (F b) n < lv (F a) n) → K (some (vI r)) (S, F, J, R, nn)) :
    w_X7_compare tb0 [vR (some a), vR (some b), vI (nI n)] (S, F, J, R, nn) K KX := by
  refine i_X7_compare ?_
  rw [hsa, hsb]
  refine gd_in (show (0 : Nat) < 1 ∧ (1 : Nat) < 6 from by decide) (gd_in (show (0 : Nat) < 1 ∧ (1 : Nat) < 6 from by decide) ?_)
  have e1 : (if (if Int32.ofNat lb < Int32.ofNat la then Int32.ofNat lb else Int32.ofNat la) < nI n then (if Int32.ofNat lb < Int32.ofNat la then Int32.ofNat lb else Int32.ofNat la) else nI n) = nI n := by
    rw [if_neg]
    split
    · exact nI_nlt hlb.1 hlb.2
    · exact nI_nlt hla.1 hla.2
  rw [e1]
  exact compare_loop hsa hsb hla hlb hga hgb hK n (Nat.le_refl n) (fun j h1 h2 => by omega)
end Mul
