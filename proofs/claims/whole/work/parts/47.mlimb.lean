/-! the reference's limbs: longs of 28 bits -/
def jv (f : Nat → Int64) : Nat → Int
  | 0 => 0
  | n + 1 => jv f n + (f n).toInt * (268435456 : Int) ^ n
def jg (f : Nat → Int64) (n : Nat) : Prop := ∀ i, i < n → 0 ≤ (f i).toInt ∧ (f i).toInt < 268435456
theorem C_pos (n : Nat) : (0 : Int) < (268435456 : Int) ^ n := Int.pow_pos (by decide)
theorem jv_cong {f g : Nat → Int64} : ∀ {n : Nat}, (∀ i, i < n → f i = g i) → jv f n = jv g n
  | 0, _ => rfl
  | n + 1, h => by rw [jv, jv, jv_cong (fun i hi => h i (by omega)), h n (by omega)]
theorem jv_rng {f : Nat → Int64} : ∀ {n : Nat}, jg f n → 0 ≤ jv f n ∧ jv f n < (268435456 : Int) ^ n
  | 0, _ => by simp [jv]
  | n + 1, h => by
    obtain ⟨h1, h2⟩ := jv_rng (f := f) (n := n) (fun i hi => h i (by omega))
    obtain ⟨h3, h4⟩ := h n (by omega)
    have hp := C_pos n
    rw [jv, Int.pow_succ]
    refine ⟨Int.add_nonneg h1 (Int.mul_nonneg h3 (Int.le_of_lt hp)), ?_⟩
    have h5 : (f n).toInt * (268435456 : Int) ^ n ≤ 268435455 * (268435456 : Int) ^ n := Int.mul_le_mul_of_nonneg_right (by omega) (Int.le_of_lt hp)
    omega
theorem jv_stf {g : Nat → Int64} {k : Nat} {v : Int64} : ∀ {n : Nat}, k < n → jv (stf g k v) n = jv g n + (v.toInt - (g k).toInt) * (268435456 : Int) ^ k
  | 0, h => absurd h (Nat.not_lt_zero _)
  | n + 1, h => by
    rw [jv, jv]
    by_cases hk : k = n
    · subst hk
      rw [stf_at, jv_cong (g := g) (fun i hi => stf_ne g v (by omega)), Int.sub_mul]
      omega
    · rw [jv_stf (n := n) (by omega), stf_ne g v (by omega : n ≠ k)]
      omega
theorem jv_mul {f g : Nat → Int64} {v : Int} : ∀ {n : Nat}, (∀ i, i < n → (g i).toInt = (f i).toInt * v) → jv g n = v * jv f n
  | 0, _ => by simp [jv]
  | n + 1, h => by
    rw [jv, jv, jv_mul (n := n) (fun i hi => h i (by omega)), h n (by omega), Int.mul_add, Int.mul_comm (f n).toInt v, Int.mul_assoc]
theorem jv_lin {f g e : Nat → Int64} {v : Int} : ∀ {n : Nat}, (∀ i, i < n → (g i).toInt = (f i).toInt + (e i).toInt * v) → jv g n = jv f n + v * jv e n
  | 0, _ => by simp [jv]
  | n + 1, h => by
    rw [jv, jv, jv, jv_lin (n := n) (fun i hi => h i (by omega)), h n (by omega), Int.mul_add, Int.add_mul]
    have : (e n).toInt * v * (268435456 : Int) ^ n = v * ((e n).toInt * (268435456 : Int) ^ n) := by rw [Int.mul_comm (e n).toInt v, Int.mul_assoc]
    omega
section MLimb
variable {b : Nat} {S : Nat → Nat × Nat} {I : Nat → Nat → Int32} {J : Nat → Nat → Int64} {R : Nat → Nat → Option Nat} {nn : Nat} {K : Option AV → AX → Prop} {KX : String → AX → Prop}
set_option maxRecDepth 20000 in
set_option maxHeartbeats 2000000 in
theorem carry_loop (h4 : 4 ≤ b) (hs : ∀ J', shp tb0 (S, I, J', R, nn) b = (2, 180)) {V : Int} (hK : ∀ g, jg g 179 → jv g 180 = V → K none (S, I, u1 J b g, R, nn)) :
    ∀ (r i : Nat) (g : Nat → Int64), i + r = 179 → jg g i → (∀ j, i < j → j < 180 → -1152921504606846976 ≤ (g j).toInt ∧ (g j).toInt ≤ 1152921504606846976) → (-2305843009213693952 ≤ (g i).toInt ∧ (g i).toInt ≤ 2305843009213693952) → jv g 180 = V →
      r_X12_carry tb0 K KX 2 [some (vR (some b)), some (vI (nI i))] [] (S, I, u1 J b g, R, nn) 0 0
  | 0, i, g, hi, hg, hb, hbi, hv => by
    have e : i = 179 := by omega
    subst e
    exact e_X12_carry_2 ⟨fun _ => e_X12_carry_38 (hK g hg hv), fun h => absurd (nI_le (a := 179) (Nat.le_refl _) (by decide)) h⟩
  | r + 1, i, g, hi, hg, hb, hbi, hv => by
    refine e_X12_carry_2 ⟨fun h => absurd h (nI_ge (a := i) (b := 179) (by omega) (by decide)), fun _ => ?_⟩
    rw [hs, hs]
    refine gd_in rfl ⟨by rw [nI_1]; exact vp_in_nI (by omega) (by decide), gd_in rfl ⟨vp_in_nI (by omega) (by decide), gd_in ⟨h4, rfl⟩ ⟨by rw [nI_1]; exact vp_in_nI (by omega) (by decide), gd_in rfl ⟨vp_in_nI (by omega) (by decide), gd_in ⟨h4, rfl⟩ ⟨vp_in_nI (by omega) (by decide), ?_⟩⟩⟩⟩⟩
    rw [nI_1, nI_clamp (by omega), nI_clamp (by omega)]
    show r_X12_carry tb0 K KX 2 [some (vR (some b)), some (vI (nI (i + 1)))] [] (S, I, u2 (u2 (u1 J b g) b (i + 1) (u1 J b g b (i + 1) + (u1 J b g b i >>> (Int32.toInt64 28 &&& 63)))) b i ((u2 (u1 J b g) b (i + 1) (u1 J b g b (i + 1) + (u1 J b g b i >>> (Int32.toInt64 28 &&& 63))) b i) &&& 268435455), R, nn) 0 0
    have hfa : u1 J b g b = g := u1_at _ _ _
    rw [hfa, u2_u1, u1_at, stf_ne _ _ (by omega : i ≠ i + 1), u2_u1]
    have hsh := n_shr28 (g i)
    have hmk := n_mask28 (g i)
    have hb1 := hb (i + 1) (by omega) (by omega)
    have hadd : (g (i + 1) + (g i >>> (Int32.toInt64 28 &&& 63))).toInt = (g (i + 1)).toInt + (g i).toInt / 268435456 := by
      rw [n_addL] <;> rw [hsh] <;> omega
    refine carry_loop h4 hs hK r (i + 1) _ (by omega) (fun j hj => ?_) (fun j h1 h2 => ?_) ?_ ?_
    · by_cases hji : j = i
      · subst hji; rw [stf_at, hmk]; omega
      · rw [stf_ne _ _ hji, stf_ne _ _ (by omega)]; exact hg j (by omega)
    · rw [stf_ne _ _ (by omega), stf_ne _ _ (by omega)]; exact hb j (by omega) h2
    · rw [stf_ne _ _ (by omega), stf_at, hadd]; omega
    · rw [jv_stf (by omega), jv_stf (by omega), stf_ne _ _ (by omega : i ≠ i + 1), hadd, hmk, hv, Int.pow_succ]
      have e1 : (g i).toInt = 268435456 * ((g i).toInt / 268435456) + (g i).toInt % 268435456 := by omega
      have e2 : ((g (i + 1)).toInt + (g i).toInt / 268435456 - (g (i + 1)).toInt) * ((268435456 : Int) ^ i * 268435456) + ((g i).toInt % 268435456 - (g i).toInt) * (268435456 : Int) ^ i = 0 := by
        have e3 : (g (i + 1)).toInt + (g i).toInt / 268435456 - (g (i + 1)).toInt = (g i).toInt / 268435456 := by omega
        have e4 : (g i).toInt % 268435456 - (g i).toInt = -(268435456 * ((g i).toInt / 268435456)) := by omega
        rw [e3, e4, Int.mul_comm ((268435456 : Int) ^ i) 268435456, ← Int.mul_assoc, Int.neg_mul, Int.mul_comm ((g i).toInt / 268435456) 268435456]
        omega
      omega
theorem top_zero {g : Nat → Int64} (hg : jg g 179) (h0 : 0 ≤ jv g 180) (h1 : jv g 180 < (268435456 : Int) ^ 179) : jg g 180 := by
  have h2 := jv_rng hg
  have h3 : jv g 180 = jv g 179 + (g 179).toInt * (268435456 : Int) ^ 179 := rfl
  have hp := C_pos 179
  have h4 : (g 179).toInt = 0 := by
    rcases Int.lt_trichotomy (g 179).toInt 0 with q | q | q
    · have : (g 179).toInt * (268435456 : Int) ^ 179 ≤ (-1) * (268435456 : Int) ^ 179 := Int.mul_le_mul_of_nonneg_right (by omega) (Int.le_of_lt hp)
      omega
    · exact q
    · have : 1 * (268435456 : Int) ^ 179 ≤ (g 179).toInt * (268435456 : Int) ^ 179 := Int.mul_le_mul_of_nonneg_right (by omega) (Int.le_of_lt hp)
      omega
  intro i hi
  by_cases hi9 : i = 179
  · subst hi9; omega
  · exact hg i (by omega)
theorem s_carry (h4 : 4 ≤ b) (hs : ∀ J', shp tb0 (S, I, J', R, nn) b = (2, 180)) {f : Nat → Int64} (hb : ∀ j, j < 180 → -1152921504606846976 ≤ (f j).toInt ∧ (f j).toInt ≤ 1152921504606846976) (h0 : 0 ≤ jv f 180) (h1 : jv f 180 < (268435456 : Int) ^ 179)
    (hK : ∀ g, jg g 180 → jv g 180 = jv f 180 → K none (S, I, u1 J b g, R, nn)) : w_X12_carry tb0 [vR (some b)] (S, I, u1 J b f, R, nn) K KX :=
  i_X12_carry (carry_loop h4 hs (V := jv f 180) (fun g hg hv => hK g (top_zero hg (by omega) (by omega)) hv) 179 0 f rfl (fun i hi => absurd hi (Nat.not_lt_zero _)) (fun j _ hj => hb j hj) (by have := hb 0 (by decide); omega) rfl)
theorem times_loop (h4 : 4 ≤ b) (hs : ∀ J', shp tb0 (S, I, J', R, nn) b = (2, 180)) {f : Nat → Int64} {v : Int64} (hK : ∀ g : Nat → Int64, (∀ j, j < 180 → g j = f j * v) → w_X12_carry tb0 [vR (some b)] (S, I, u1 J b g, R, nn) (fun v2 X1 => rV v2 (K none X1)) KX) :
    ∀ (r i : Nat) (g : Nat → Int64), i + r = 180 → (∀ j, j < i → g j = f j * v) → (∀ j, i ≤ j → g j = f j) → r_X12_times tb0 K KX 2 [some (vR (some b)), some (vL v), none, some (vI (nI i))] [] (S, I, u1 J b g, R, nn) 0 0
  | 0, i, g, hi, hg, hk => by
    have e : i = 180 := by omega
    subst e
    exact e_X12_times_2 ⟨fun _ => e_X12_times_22 (hK g hg), fun h => absurd (nI_le (a := 180) (Nat.le_refl _) (by decide)) h⟩
  | r + 1, i, g, hi, hg, hk => by
    refine e_X12_times_2 ⟨fun h => absurd h (nI_ge (a := i) (b := 180) (by omega) (by decide)), fun _ => ?_⟩
    rw [hs]
    refine gd_in rfl ⟨vp_in_nI (by omega) (by decide), gd_in ⟨h4, rfl⟩ ⟨vp_in_nI (by omega) (by decide), ?_⟩⟩
    rw [nI_1, nI_clamp (by omega)]
    show r_X12_times tb0 K KX 2 [some (vR (some b)), some (vL v), none, some (vI (nI (i + 1)))] [] (S, I, u2 (u1 J b g) b i (u1 J b g b i * v), R, nn) 0 0
    rw [u2_u1, u1_at]
    refine times_loop h4 hs hK r (i + 1) _ (by omega) (fun j hj => ?_) (fun j hj => ?_)
    · by_cases hji : j = i
      · subst hji; rw [stf_at, hk j (Nat.le_refl _)]
      · rw [stf_ne _ _ hji]; exact hg j (by omega)
    · rw [stf_ne _ _ (by omega)]; exact hk j (by omega)
theorem mulL_bd {x v : Int64} (hx : 0 ≤ x.toInt ∧ x.toInt < 268435456) (hv : 0 ≤ v.toInt ∧ v.toInt ≤ 200000000) : (x * v).toInt = x.toInt * v.toInt ∧ 0 ≤ x.toInt * v.toInt ∧ x.toInt * v.toInt ≤ 53687091200000000 := by
  have h1 : 0 ≤ x.toInt * v.toInt := Int.mul_nonneg hx.1 hv.1
  have h2 : x.toInt * v.toInt ≤ 268435456 * v.toInt := Int.mul_le_mul_of_nonneg_right (by omega) hv.1
  refine ⟨?_, h1, by omega⟩
  rw [n_mulL] <;> omega
theorem s_times (h4 : 4 ≤ b) (hs : ∀ J', shp tb0 (S, I, J', R, nn) b = (2, 180)) {f : Nat → Int64} {v : Int64} (hf : jg f 180) (hv : 0 ≤ v.toInt ∧ v.toInt ≤ 200000000) (h1 : v.toInt * jv f 180 < (268435456 : Int) ^ 179)
    (hK : ∀ g, jg g 180 → jv g 180 = v.toInt * jv f 180 → K none (S, I, u1 J b g, R, nn)) : w_X12_times tb0 [vR (some b), vL v] (S, I, u1 J b f, R, nn) K KX := by
  refine i_X12_times (times_loop h4 hs (f := f) (v := v) (fun g hg => ?_) 180 0 f rfl (fun j hj => absurd hj (Nat.not_lt_zero _)) (fun j _ => rfl))
  have e1 : ∀ i, i < 180 → (g i).toInt = (f i).toInt * v.toInt := fun i hi => by rw [hg i hi]; exact (mulL_bd (hf i hi) hv).1
  have e2 : jv g 180 = v.toInt * jv f 180 := jv_mul e1
  refine s_carry h4 hs (fun j hj => ?_) (by rw [e2]; exact Int.mul_nonneg hv.1 (jv_rng hf).1) (by rw [e2]; exact h1) (fun g' hg' e => rV_in (hK g' hg' (e.trans e2)))
  rw [e1 j hj]
  have := (mulL_bd (hf j hj) hv).2
  omega
end MLimb
