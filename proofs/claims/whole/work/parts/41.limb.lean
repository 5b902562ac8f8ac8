/-! numbers in limbs of 30 bits -/
theorem gd_in {c f : Prop} [Decidable c] (h : c) (hf : f) : gd c f := by
  unfold gd; rw [if_pos h]; exact hf
def lv (f : Nat → Int32) : Nat → Int
  | 0 => 0
  | n + 1 => lv f n + (f n).toInt * (1073741824 : Int) ^ n
def lg (f : Nat → Int32) (n : Nat) : Prop := ∀ i, i < n → 0 ≤ (f i).toInt ∧ (f i).toInt < 1073741824
def stf {α : Type} (g : Nat → α) (j : Nat) (v : α) : Nat → α := fun i => if i = j then v else g i
theorem stf_at {α : Type} (g : Nat → α) (j : Nat) (v : α) : stf g j v j = v := by simp [stf]
theorem stf_ne {α : Type} (g : Nat → α) {j i : Nat} (v : α) (h : i ≠ j) : stf g j v i = g i := by simp [stf, h]
theorem u2_u1 {α : Type} (F : Nat → Nat → α) (a : Nat) (g : Nat → α) (j : Nat) (v : α) : u2 (u1 F a g) a j v = u1 F a (stf g j v) := by
  funext x y
  unfold u2 u1 stf
  by_cases h : x = a
  · subst h; simp
  · simp [h]
theorem u1_self {α : Type} (F : Nat → α) (a : Nat) : u1 F a (F a) = F := by
  funext x; unfold u1; by_cases h : x = a
  · subst h; simp
  · simp [h]
theorem lv_cong {f g : Nat → Int32} : ∀ {n : Nat}, (∀ i, i < n → f i = g i) → lv f n = lv g n
  | 0, _ => rfl
  | n + 1, h => by rw [lv, lv, lv_cong (fun i hi => h i (by omega)), h n (by omega)]
theorem B_pos (n : Nat) : (0 : Int) < (1073741824 : Int) ^ n := Int.pow_pos (by decide)
theorem lv_rng {f : Nat → Int32} : ∀ {n : Nat}, lg f n → 0 ≤ lv f n ∧ lv f n < (1073741824 : Int) ^ n
  | 0, _ => by simp [lv]
  | n + 1, h => by
    obtain ⟨h1, h2⟩ := lv_rng (f := f) (n := n) (fun i hi => h i (by omega))
    obtain ⟨h3, h4⟩ := h n (by omega)
    have hp := B_pos n
    rw [lv, Int.pow_succ]
    refine ⟨Int.add_nonneg h1 (Int.mul_nonneg h3 (Int.le_of_lt hp)), ?_⟩
    have h5 : (f n).toInt * (1073741824 : Int) ^ n ≤ 1073741823 * (1073741824 : Int) ^ n := Int.mul_le_mul_of_nonneg_right (by omega) (Int.le_of_lt hp)
    have h6 : (1073741824 : Int) ^ n * 1073741824 = 1073741823 * (1073741824 : Int) ^ n + (1073741824 : Int) ^ n := by
      rw [Int.mul_comm ((1073741824 : Int) ^ n) 1073741824]
      omega
    omega
theorem mul_bd {x y A C : Int} (hx : -A ≤ x ∧ x ≤ A) (hy : 0 ≤ y ∧ y ≤ C) : -(A * C) ≤ x * y ∧ x * y ≤ A * C := by
  have hA : 0 ≤ A := by omega
  have hC : 0 ≤ C := by omega
  constructor
  · have h1 : -A * y ≤ x * y := Int.mul_le_mul_of_nonneg_right hx.1 hy.1
    have h2 : A * y ≤ A * C := Int.mul_le_mul_of_nonneg_left hy.2 hA
    have h3 : -A * y = -(A * y) := Int.neg_mul _ _
    omega
  · have h1 : x * y ≤ A * y := Int.mul_le_mul_of_nonneg_right hx.2 hy.1
    have h2 : A * y ≤ A * C := Int.mul_le_mul_of_nonneg_left hy.2 hA
    omega
/-- one limb of a times-and-add: what stays, what is carried -/
theorem limb_step {c : Int64} {x y f : Int32} (hc : -4294967296 ≤ c.toInt ∧ c.toInt ≤ 4294967296) (hx : 0 ≤ x.toInt ∧ x.toInt < 1073741824) (hy : 0 ≤ y.toInt ∧ y.toInt < 1073741824) :
    ∃ t : Int, t = c.toInt + x.toInt + y.toInt * f.toInt ∧ (Int64.toInt32 ((c + (Int32.toInt64 x + Int32.toInt64 y * Int32.toInt64 f)) &&& 1073741823)).toInt = t % 1073741824 ∧ ((c + (Int32.toInt64 x + Int32.toInt64 y * Int32.toInt64 f)) >>> (Int32.toInt64 30 &&& 63)).toInt = t / 1073741824 ∧ -4294967296 ≤ t / 1073741824 ∧ t / 1073741824 ≤ 4294967296 := by
  have hf := n_rng f
  have hm := mul_bd (x := f.toInt) (y := y.toInt) (A := 2147483648) (C := 1073741824) ⟨by omega, by omega⟩ ⟨hy.1, by omega⟩
  rw [Int.mul_comm f.toInt] at hm
  have e1 : (Int32.toInt64 y * Int32.toInt64 f).toInt = y.toInt * f.toInt := by
    rw [n_mulL] <;> rw [n_i2l, n_i2l] <;> omega
  have e2 : (Int32.toInt64 x + Int32.toInt64 y * Int32.toInt64 f).toInt = x.toInt + y.toInt * f.toInt := by
    rw [n_addL] <;> rw [e1, n_i2l] <;> omega
  have e3 : (c + (Int32.toInt64 x + Int32.toInt64 y * Int32.toInt64 f)).toInt = c.toInt + x.toInt + y.toInt * f.toInt := by
    rw [n_addL] <;> rw [e2] <;> omega
  refine ⟨_, rfl, ?_, ?_, ?_, ?_⟩
  · rw [n_l2i] <;> rw [n_mask30, e3] <;> omega
  · rw [n_shr30, e3]
  · omega
  · omega
section AddTimes
variable {a b la lb n : Nat} {S : Nat → Nat × Nat} {F : Nat → Nat → Int32} {J : Nat → Nat → Int64} {R : Nat → Nat → Option Nat} {nn : Nat} {fac : Int32} {K : Option AV → AX → Prop} {KX : String → AX → Prop}
theorem addTimes_loop (hab : a ≠ b) (h4 : 4 ≤ a) (hsa : ∀ I, shp tb0 (S, I, J, R, nn) a = (1, la)) (hsb : ∀ I, shp tb0 (S, I, J, R, nn) b = (1, lb)) (hla : n ≤ la ∧ la < 2 ^ 31) (hlb : n ≤ lb ∧ lb < 2 ^ 31) (hgb : lg (F b) n) (hga : lg (F a) n)
    (hK : ∀ g c, lg g n → lv g n + c * (1073741824 : Int) ^ n = lv (F a) n + fac.toInt * lv (F b) n → (∀ i, n ≤ i → g i = F a i) → K none (S, u1 F a g, J, R, nn)) :
    ∀ (r i : Nat) (g : Nat → Int32) (c : Int64), i + r = n → lg g i → (∀ j, i ≤ j → g j = F a j) → (-4294967296 ≤ c.toInt ∧ c.toInt ≤ 4294967296) → lv g i + c.toInt * (1073741824 : Int) ^ i = lv (F a) i + fac.toInt * lv (F b) i →
      r_X7_addTimes tb0 K KX 6 [some (vR (some a)), some (vR (some b)), some (vI (nI n)), some (vI fac), some (vL c), none, some (vI (nI i))] [] (S, u1 F a g, J, R, nn) 0 0
  | 0, i, g, c, hi, hg, hk, hc, hv => by
    have e : i = n := by omega
    subst e
    exact e_X7_addTimes_6 ⟨fun _ => e_X7_addTimes_69 (hK g c.toInt hg hv hk), fun h => absurd (nI_le (Nat.le_refl i) (by omega)) h⟩
  | r + 1, i, g, c, hi, hg, hk, hc, hv => by
    have hin : i < n := by omega
    have hfb : u1 F a g b = F b := u1_ne _ _ (fun h => hab h.symm)
    have hfa : u1 F a g a = g := u1_at _ _ _
    refine e_X7_addTimes_6 ⟨fun h => absurd h (nI_ge hin (by omega)), fun _ => ?_⟩
    rw [hsa, hsb]
    refine gd_in (show (0 : Nat) < 1 ∧ (1 : Nat) < 6 from by decide) ⟨fun h => absurd h (nI_ge (show i < la by omega) (by omega)), fun _ => gd_in (show (0 : Nat) < 1 ∧ (1 : Nat) < 6 from by decide) ⟨fun h => absurd h (nI_ge (show i < lb by omega) (by omega)), fun _ => gd_in rfl ⟨vp_in_nI (by omega) (by omega), gd_in rfl ⟨vp_in_nI (by omega) (by omega), gd_in ⟨h4, rfl⟩ ⟨vp_in_nI (by omega) (by omega), ?_⟩⟩⟩⟩⟩
    rw [nI_clamp (by omega)]
    show r_X7_addTimes tb0 K KX 6 [some (vR (some a)), some (vR (some b)), some (vI (nI n)), some (vI fac), some (vL ((c + (Int32.toInt64 (u1 F a g a i) + Int32.toInt64 (u1 F a g b i) * Int32.toInt64 fac)) >>> (Int32.toInt64 30 &&& 63))), none, some (vI (nI i + 1))] [] (S, u2 (u1 F a g) a i (Int64.toInt32 ((c + (Int32.toInt64 (u1 F a g a i) + Int32.toInt64 (u1 F a g b i) * Int32.toInt64 fac)) &&& 1073741823)), J, R, nn) 0 0
    rw [hfa, hfb, u2_u1, nI_1]
    have hgi : g i = F a i := hk i (Nat.le_refl i)
    obtain ⟨t, ht, e1, e2, b1, b2⟩ := limb_step (c := c) (x := g i) (y := F b i) (f := fac) hc (by rw [hgi]; exact hga i hin) (hgb i hin)
    refine addTimes_loop hab h4 hsa hsb hla hlb hgb hga hK r (i + 1) _ _ (by omega) (fun j hj => ?_) (fun j hj => ?_) (by rw [e2]; exact ⟨b1, b2⟩) ?_
    · by_cases hji : j = i
      · subst hji; rw [stf_at, e1]; omega
      · rw [stf_ne _ _ hji]; exact hg j (by omega)
    · rw [stf_ne _ _ (by omega)]; exact hk j (by omega)
    · have h1 : lv (stf g i (Int64.toInt32 ((c + (Int32.toInt64 (g i) + Int32.toInt64 (F b i) * Int32.toInt64 fac)) &&& 1073741823))) i = lv g i := lv_cong fun j hj => stf_ne _ _ (by omega)
      rw [lv, lv, lv, h1, stf_at, e1, e2, Int.pow_succ, ← hgi]
      have h3 : t % 1073741824 + 1073741824 * (t / 1073741824) = t := by omega
      generalize (1073741824 : Int) ^ i = B at *
      have h4 : t % 1073741824 * B + t / 1073741824 * (B * 1073741824) = t * B := by
        have : t / 1073741824 * (B * 1073741824) = (1073741824 * (t / 1073741824)) * B := by
          rw [Int.mul_comm B 1073741824, ← Int.mul_assoc, Int.mul_comm (t / 1073741824) 1073741824]
        rw [this, ← Int.add_mul, h3]
      have h5 : t * B = c.toInt * B + (g i).toInt * B + fac.toInt * ((F b i).toInt * B) := by
        rw [ht, Int.add_mul, Int.add_mul, ← Int.mul_assoc, Int.mul_comm fac.toInt]
      rw [Int.mul_add]
      omega
theorem s_addTimes (hab : a ≠ b) (h4 : 4 ≤ a) (hsa : ∀ I, shp tb0 (S, I, J, R, nn) a = (1, la)) (hsb : ∀ I, shp tb0 (S, I, J, R, nn) b = (1, lb)) (hla : n ≤ la ∧ la < 2 ^ 31) (hlb : n ≤ lb ∧ lb < 2 ^ 31) (hga : lg (F a) n) (hgb : lg (F b) n)
    (hT : 0 ≤ lv (F a) n + fac.toInt * lv (F b) n ∧ lv (F a) n + fac.toInt * lv (F b) n < (1073741824 : Int) ^ n)
    (hK : ∀ g, lg g n → lv g n = lv (F a) n + fac.toInt * lv (F b) n → (∀ i, n ≤ i → g i = F a i) → K none (S, u1 F a g, J, R, nn)) :
    w_X7_addTimes tb0 [vR (some a), vR (some b), vI (nI n), vI fac] (S, F, J, R, nn) K KX := by
  refine i_X7_addTimes ?_
  have h := addTimes_loop (a := a) (b := b) (la := la) (lb := lb) (n := n) (S := S) (F := F) (J := J) (R := R) (nn := nn) (fac := fac) (K := K) (KX := KX) hab h4 hsa hsb hla hlb hgb hga (fun g c hg hv hk => ?_) n 0 (F a) 0 (by omega) (fun j hj => absurd hj (by omega)) (fun _ _ => rfl) (by decide) (by simp [lv])
  · rw [u1_self, nI_0] at h; exact h
  · have hr := lv_rng hg
    have hp := B_pos n
    have hc : c = 0 := by
      rcases Int.lt_trichotomy c 0 with h | h | h
      · have h1 : c * (1073741824 : Int) ^ n ≤ -1 * (1073741824 : Int) ^ n := Int.mul_le_mul_of_nonneg_right (by omega) (Int.le_of_lt hp)
        omega
      · exact h
      · have h1 : 1 * (1073741824 : Int) ^ n ≤ c * (1073741824 : Int) ^ n := Int.mul_le_mul_of_nonneg_right (by omega) (Int.le_of_lt hp)
        omega
    subst hc
    exact hK g hg (by omega) hk
end AddTimes
