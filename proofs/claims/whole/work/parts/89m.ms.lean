/-! what a second changes: one function for the class and the reference -/
section Ms
/-- seconds, way, fare, steps, steps that are paid, the part that is begun -/
def MtS : Type := Int32 × Int64 × Int64 × Int32 × Int32 × Int × Int
def mS (s : MtS) : Int32 := s.1
def mW (s : MtS) : Int64 := s.2.1
def mFr (s : MtS) : Int64 := s.2.2.1
def mT (s : MtS) : Int32 := s.2.2.2.1
def mP (s : MtS) : Int32 := s.2.2.2.2.1
def mA (s : MtS) : Int := s.2.2.2.2.2.1
def mB (s : MtS) : Int := s.2.2.2.2.2.2
def mkS (a : Int32) (b c : Int64) (d e : Int32) (x y : Int) : MtS := (a, b, c, d, e, x, y)
def mnOf (bg s : Int32) : Int32 := ((bg + s) / 60) - ((bg + s) / 60) / 1440 * 1440
noncomputable def tkPr (f : Nat → Int32) (k q : Nat) (bg s : Int32) : Int32 := @ite _ (q = 1 ∧ night (f (15 * k + 6)).toInt (f (15 * k + 7)).toInt (mnOf bg s).toInt) (Classical.propDecidable _) (f (15 * k + 8)) (f (15 * k + 2))
noncomputable def tkLn (f : Nat → Int32) (k q : Nat) (te : Int32) (w : Int64) : Int32 := @ite _ ((q = 2 ∨ q = 3) ∧ ¬ w ≤ (f (15 * k + 9)).toInt64 * te.toInt64) (Classical.propDecidable _) (f (15 * k + 10)) (f (15 * k + 3))
def tkN (f : Nat → Int32) (k : Nat) (te : Int32) (A : Int) : Int := if (f (15 * k + 5)).toInt * te.toInt < A then A else 1
noncomputable def tkD (f : Nat → Int32) (k q : Nat) (te : Int32) (w : Int64) (A : Int) : Int := if (f (15 * k + 5)).toInt * te.toInt < A then (tkLn f k q te w).toInt * te.toInt else (f (15 * k + 4)).toInt
def tkU (s : MtS) (n d : Int) : Int := (mA s * d + n * mB s) / (mB s * d)
def tkM (p u : Int32) : Int32 := if p < u then p else u
def tkS (s : MtS) (p : Int64) (pr u : Int32) (n d : Int) : MtS := mkS (mS s + 1) (mW s + p) (mFr s + (u - tkM (mP s) u).toInt64 * pr.toInt64) (mT s + u) (mP s - tkM (mP s) u) (mA s * d + n * mB s - u.toInt * (mB s * d)) (mB s * d)
noncomputable def tkV (f : Nat → Int32) (k q : Nat) (te rd : Int32) (p : Int64) (s : MtS) : Int32 := Int32.ofInt (tkU s (tkN f k te (p.toInt * rd.toInt)) (tkD f k q te (mW s * rd.toInt64) (p.toInt * rd.toInt)))
noncomputable def tkG (f : Nat → Int32) (k q : Nat) (bg te rd : Int32) (p : Int64) (s : MtS) : MtS := tkS s p (tkPr f k q bg (mS s)) (tkV f k q te rd p s) (tkN f k te (p.toInt * rd.toInt)) (tkD f k q te (mW s * rd.toInt64) (p.toInt * rd.toInt))
def numOk (f : Nat → Int32) (n : Nat) : Prop := ∀ k, k < n → ∀ j, j < 15 → bnd (f (15 * k + j)) (aLst j).toInt (aMst j).toInt
theorem mulb {x y a b : Int} (h1 : 0 ≤ x) (h2 : x ≤ a) (h3 : 0 ≤ y) (h4 : y ≤ b) : 0 ≤ x * y ∧ x * y ≤ a * b := ⟨Int.mul_nonneg h1 h3, Int.mul_le_mul h2 h4 h3 (by omega)⟩
variable {f : Nat → Int32} {k q n : Nat} {bg te rd : Int32} {s : MtS} {p : Int64}
theorem num_at (h : numOk f n) (hk : k < n) : (10000 ≤ (f (15 * k + 3)).toInt ∧ (f (15 * k + 3)).toInt ≤ 1000000) ∧ (1 ≤ (f (15 * k + 4)).toInt ∧ (f (15 * k + 4)).toInt ≤ 600) ∧ (0 ≤ (f (15 * k + 5)).toInt ∧ (f (15 * k + 5)).toInt ≤ 60000) ∧ (10000 ≤ (f (15 * k + 10)).toInt ∧ (f (15 * k + 10)).toInt ≤ 1000000) := by
  have e3 : (aLst 3).toInt = 10000 ∧ (aMst 3).toInt = 1000000 := by decide
  have e4 : (aLst 4).toInt = 1 ∧ (aMst 4).toInt = 600 := by decide
  have e5 : (aLst 5).toInt = 0 ∧ (aMst 5).toInt = 60000 := by decide
  have e10 : (aLst 10).toInt = 10000 ∧ (aMst 10).toInt = 1000000 := by decide
  have h3 := h k hk 3 (by decide)
  have h4 := h k hk 4 (by decide)
  have h5 := h k hk 5 (by decide)
  have h10 := h k hk 10 (by decide)
  unfold bnd at h3 h4 h5 h10
  omega
theorem tkLn_bd (h : numOk f n) (hk : k < n) {w : Int64} : 10000 ≤ (tkLn f k q te w).toInt ∧ (tkLn f k q te w).toInt ≤ 1000000 := by
  obtain ⟨a, b, c, d⟩ := num_at h hk
  unfold tkLn
  by_cases z : (q = 2 ∨ q = 3) ∧ ¬ w ≤ (f (15 * k + 9)).toInt64 * te.toInt64
  · rw [if_pos z]; exact d
  · rw [if_neg z]; exact a
theorem tkD_bd (h : numOk f n) (hk : k < n) (hte : bnd te 1 200) {w : Int64} {A : Int} : 1 ≤ tkD f k q te w A ∧ tkD f k q te w A ≤ 200000000 := by
  obtain ⟨a, b, c, d⟩ := num_at h hk
  have l := tkLn_bd (q := q) (te := te) (w := w) h hk
  unfold bnd at hte
  unfold tkD
  by_cases z : (f (15 * k + 5)).toInt * te.toInt < A
  · rw [if_pos z]
    have e := mulb (show 0 ≤ (tkLn f k q te w).toInt by omega) l.2 (show 0 ≤ te.toInt by omega) hte.2
    have e2 : 1 * 1 ≤ (tkLn f k q te w).toInt * te.toInt := Int.mul_le_mul (by omega) hte.1 (by decide) (by omega)
    omega
  · rw [if_neg z]; omega
theorem dPrd_ok (h : numOk f n) : ∀ {m}, m ≤ n → 0 < dPrd f m ∧ dPrd f m ≤ (600000000000000 : Int) ^ m
  | 0, _ => by
    unfold dPrd
    exact ⟨by decide, by decide⟩
  | m + 1, hm => by
    obtain ⟨i1, i2⟩ := dPrd_ok h (m := m) (by omega)
    obtain ⟨a, b, c, d⟩ := num_at h (k := m) (by omega)
    have e1 := mulb (show 0 ≤ nOf f m 3 by unfold nOf; omega) (show nOf f m 3 ≤ 1000000 by unfold nOf; omega) (show 0 ≤ nOf f m 10 by unfold nOf; omega) (show nOf f m 10 ≤ 1000000 by unfold nOf; omega)
    have e2 := mulb e1.1 e1.2 (show 0 ≤ nOf f m 4 by unfold nOf; omega) (show nOf f m 4 ≤ 600 by unfold nOf; omega)
    have p1 : 0 < nOf f m 3 * nOf f m 10 * nOf f m 4 := Int.mul_pos (Int.mul_pos (by unfold nOf; omega) (by unfold nOf; omega)) (by unfold nOf; omega)
    have e3 := mulb (show 0 ≤ dPrd f m by omega) i2 e2.1 e2.2
    rw [dPrd]
    refine ⟨Int.mul_pos i1 p1, ?_⟩
    rw [Int.pow_succ]
    exact e3.2
theorem dPrd_dvd : ∀ {m}, k < m → nOf f k 3 * nOf f k 10 * nOf f k 4 ∣ dPrd f m
  | 0, h => absurd h (Nat.not_lt_zero _)
  | m + 1, h => by
    rw [dPrd]
    by_cases e : k = m
    · subst e; exact Int.dvd_mul_left _ _
    · exact Int.dvd_trans (dPrd_dvd (m := m) (by omega)) (Int.dvd_mul_right _ _)
theorem tkD_set (hk : k < n) {w : Int64} {A : Int} : (∃ j, j < 3 * n ∧ tkD f k q te w A = dSet f te.toInt j) ∧ tkD f k q te w A ∣ te.toInt * dPrd f n := by
  have e0 : 3 * k % 3 = 0 ∧ 3 * k / 3 = k := by omega
  have e1 : (3 * k + 1) % 3 = 1 ∧ (3 * k + 1) / 3 = k := by omega
  have e2 : (3 * k + 2) % 3 = 2 ∧ (3 * k + 2) / 3 = k := by omega
  have dv := dPrd_dvd (f := f) hk
  unfold tkD
  by_cases z : (f (15 * k + 5)).toInt * te.toInt < A
  · rw [if_pos z]
    unfold tkLn
    by_cases y : (q = 2 ∨ q = 3) ∧ ¬ w ≤ (f (15 * k + 9)).toInt64 * te.toInt64
    · rw [if_pos y]
      refine ⟨⟨3 * k + 1, by omega, ?_⟩, ?_⟩
      · unfold dSet
        rw [e1.1, e1.2]
        rfl
      · rw [Int.mul_comm (f (15 * k + 10)).toInt te.toInt]
        refine Int.mul_dvd_mul (Int.dvd_refl _) (Int.dvd_trans ?_ dv)
        exact Int.dvd_trans (Int.dvd_mul_left (nOf f k 3) (nOf f k 10)) (Int.dvd_mul_right _ _)
    · rw [if_neg y]
      refine ⟨⟨3 * k, by omega, ?_⟩, ?_⟩
      · unfold dSet
        rw [e0.1, e0.2]
        rfl
      · rw [Int.mul_comm (f (15 * k + 3)).toInt te.toInt]
        refine Int.mul_dvd_mul (Int.dvd_refl _) (Int.dvd_trans ?_ dv)
        exact Int.dvd_trans (Int.dvd_mul_right (nOf f k 3) (nOf f k 10)) (Int.dvd_mul_right _ _)
  · rw [if_neg z]
    refine ⟨⟨3 * k + 2, by omega, ?_⟩, ?_⟩
    · unfold dSet
      rw [e2.1, e2.2]
      rfl
    · exact Int.dvd_trans (Int.dvd_trans (Int.dvd_mul_left (nOf f k 3 * nOf f k 10) (nOf f k 4)) dv) (Int.dvd_mul_left _ _)
theorem dM_lt (h : numOk f n) (hn : n ≤ 12) (hte : bnd te 1 200) : 0 < te.toInt * dPrd f n ∧ (te.toInt * dPrd f n).toNat < 2 ^ 600 := by
  obtain ⟨a, b⟩ := dPrd_ok h (Nat.le_refl n)
  unfold bnd at hte
  refine ⟨Int.mul_pos (by omega) a, ?_⟩
  have e : (600000000000000 : Int) ^ n ≤ 600000000000000 ^ 12 := by
    clear a b h
    have hc : n = 0 ∨ n = 1 ∨ n = 2 ∨ n = 3 ∨ n = 4 ∨ n = 5 ∨ n = 6 ∨ n = 7 ∨ n = 8 ∨ n = 9 ∨ n = 10 ∨ n = 11 ∨ n = 12 := by omega
    rcases hc with rfl | rfl | rfl | rfl | rfl | rfl | rfl | rfl | rfl | rfl | rfl | rfl | rfl <;> decide +kernel
  have e2 := mulb (show 0 ≤ te.toInt by omega) hte.2 (show 0 ≤ dPrd f n by omega) (Int.le_trans b e)
  have e3 : ((200 : Int) * 600000000000000 ^ 12).toNat < 2 ^ 600 := by decide +kernel
  exact Nat.lt_of_le_of_lt (Int.toNat_le_toNat e2.2) e3
theorem lt600 {z : Int} (h : z.toNat < 2 ^ 600) : z < 2 ^ 600 := by
  have e : (2 : Int) ^ 600 = ((2 ^ 600 : Nat) : Int) := by decide +kernel
  rw [e]
  generalize (2 ^ 600 : Nat) = b at h ⊢
  omega
/-- the class's step -/
theorem tk_cls {T B P Q n d D T1 B1 : Int} (hB : 0 < B) (hQ : 0 < Q) (hd : 0 < d) (hB1 : 0 < B1) (h0 : T * Q = P * B) (h1 : T1 * (B * d) = (T * d + n * B - D * (B * d)) * B1) (t0 : 0 ≤ T1) (t1 : T1 < B1) : (P * d + n * Q) / (Q * d) = D ∧ T1 * (Q * d) = (P * d + n * Q - D * (Q * d)) * B1 := by
  have key : T1 * (Q * d) = (P * d + n * Q - D * (Q * d)) * B1 := by
    have e1 : T1 * (Q * d) * B = (P * d + n * Q - D * (Q * d)) * B1 * B := by
      have a1 : T1 * (Q * d) * B = T1 * (B * d) * Q := by grind
      have a2 : (T * d + n * B - D * (B * d)) * B1 * Q = ((T * Q) * d + n * B * Q - D * (B * d) * Q) * B1 := by grind
      rw [a1, h1, a2, h0]
      grind
    exact Int.eq_of_mul_eq_mul_right (by omega) e1
  refine ⟨?_, key⟩
  have hp := Int.mul_pos hQ hd
  have q1 : 0 * B1 ≤ (P * d + n * Q - D * (Q * d)) * B1 := by
    rw [← key, Int.zero_mul]; exact Int.mul_nonneg t0 (by omega)
  have q2 : (P * d + n * Q - D * (Q * d)) * B1 < (Q * d) * B1 := by
    rw [← key, Int.mul_comm (Q * d) B1]; exact Int.mul_lt_mul_of_pos_right t1 hp
  have q3 := Int.le_of_mul_le_mul_right q1 hB1
  have q4 := Int.lt_of_mul_lt_mul_right q2 (Int.le_of_lt hB1)
  refine fl_eq hp (by omega) ?_
  rw [Int.add_mul, Int.one_mul]
  omega
/-- the reference's step -/
theorem tk_ref {N D P Q n d w M N1 D1 : Int} (hD : 0 < D) (hQ : 0 < Q) (hd : 0 < d) (hD1 : 0 < D1) (h0 : N * Q = (M * Q + P) * D) (h1 : N1 * (D * d) = (N * d + (n - w * d) * D) * D1) : (P * d + n * Q) / (Q * d) = w + N1 / D1 - M ∧ N1 * (Q * d) = (N1 / D1 * (Q * d) + (P * d + n * Q - (w + N1 / D1 - M) * (Q * d))) * D1 := by
  have key : N1 * (Q * d) = ((M - w) * (Q * d) + (P * d + n * Q)) * D1 := by
    have e1 : N1 * (Q * d) * D = ((M - w) * (Q * d) + (P * d + n * Q)) * D1 * D := by
      have a1 : N1 * (Q * d) * D = N1 * (D * d) * Q := by grind
      have a2 : (N * d + (n - w * d) * D) * D1 * Q = ((N * Q) * d + (n - w * d) * D * Q) * D1 := by grind
      rw [a1, h1, a2, h0]
      grind
    exact Int.eq_of_mul_eq_mul_right (by omega) e1
  have hp := Int.mul_pos hQ hd
  have hdm := Int.mul_ediv_add_emod N1 D1
  have r0 := Int.emod_nonneg N1 (show D1 ≠ 0 by omega)
  have r1 := Int.emod_lt_of_pos N1 hD1
  generalize N1 / D1 = z at hdm ⊢
  generalize N1 % D1 = r at hdm r0 r1
  have k2 : r * (Q * d) = (P * d + n * Q - (w + z - M) * (Q * d)) * D1 := by
    have : N1 = D1 * z + r := hdm.symm
    rw [this] at key
    grind
  refine ⟨?_, ?_⟩
  · have q1 : 0 * D1 ≤ (P * d + n * Q - (w + z - M) * (Q * d)) * D1 := by
      rw [← k2, Int.zero_mul]; exact Int.mul_nonneg r0 (by omega)
    have q2 : (P * d + n * Q - (w + z - M) * (Q * d)) * D1 < (Q * d) * D1 := by
      rw [← k2, Int.mul_comm (Q * d) D1]; exact Int.mul_lt_mul_of_pos_right r1 hp
    have q3 := Int.le_of_mul_le_mul_right q1 hD1
    have q4 := Int.lt_of_mul_lt_mul_right q2 (Int.le_of_lt hD1)
    refine fl_eq hp (by omega) ?_
    rw [Int.add_mul, Int.one_mul]
    omega
  · rw [key]; grind
/-- the steps of a second -/
theorem tk_st (hb : numOk f n) (hk : k < n) (hte : bnd te 1 200) (hA0 : 0 ≤ p.toInt * rd.toInt) (hA : p.toInt * rd.toInt ≤ 5000000) (h0 : 0 ≤ mA s) (h1 : mA s < mB s) (t0 : 0 ≤ (mT s).toInt) (t1 : (mT s).toInt ≤ 2000000) : 0 ≤ mA (tkG f k q bg te rd p s) ∧ mA (tkG f k q bg te rd p s) < mB (tkG f k q bg te rd p s) ∧ (mT s).toInt ≤ (mT (tkG f k q bg te rd p s)).toInt ∧ (mT (tkG f k q bg te rd p s)).toInt ≤ (mT s).toInt + 501 := by
  obtain ⟨dd1, dd2⟩ := tkD_bd (q := q) hb hk hte (w := mW s * rd.toInt64) (A := p.toInt * rd.toInt)
  have hn : 0 ≤ tkN f k te (p.toInt * rd.toInt) ∧ tkN f k te (p.toInt * rd.toInt) ≤ 500 * tkD f k q te (mW s * rd.toInt64) (p.toInt * rd.toInt) := by
    obtain ⟨n3, n4, n5, n10⟩ := num_at hb hk
    have l := tkLn_bd (q := q) (te := te) (w := mW s * rd.toInt64) hb hk
    unfold bnd at hte
    unfold tkN tkD
    by_cases z : (f (15 * k + 5)).toInt * te.toInt < p.toInt * rd.toInt
    · rw [if_pos z, if_pos z]
      have e2 : (tkLn f k q te (mW s * rd.toInt64)).toInt * 1 ≤ (tkLn f k q te (mW s * rd.toInt64)).toInt * te.toInt := Int.mul_le_mul_of_nonneg_left hte.1 (by omega)
      omega
    · rw [if_neg z, if_neg z]; omega
  show 0 ≤ mA s * tkD f k q te (mW s * rd.toInt64) (p.toInt * rd.toInt) + tkN f k te (p.toInt * rd.toInt) * mB s - (tkV f k q te rd p s).toInt * (mB s * tkD f k q te (mW s * rd.toInt64) (p.toInt * rd.toInt)) ∧ mA s * tkD f k q te (mW s * rd.toInt64) (p.toInt * rd.toInt) + tkN f k te (p.toInt * rd.toInt) * mB s - (tkV f k q te rd p s).toInt * (mB s * tkD f k q te (mW s * rd.toInt64) (p.toInt * rd.toInt)) < mB s * tkD f k q te (mW s * rd.toInt64) (p.toInt * rd.toInt) ∧ (mT s).toInt ≤ (mT s + tkV f k q te rd p s).toInt ∧ (mT s + tkV f k q te rd p s).toInt ≤ (mT s).toInt + 501
  unfold tkV tkU
  generalize tkD f k q te (mW s * rd.toInt64) (p.toInt * rd.toInt) = d at dd1 dd2 hn
  generalize tkN f k te (p.toInt * rd.toInt) = m at hn
  have hp : 0 < mB s * d := Int.mul_pos (by omega) (by omega)
  have e1 := Int.mul_ediv_add_emod (mA s * d + m * mB s) (mB s * d)
  have e2 := Int.emod_nonneg (mA s * d + m * mB s) (show mB s * d ≠ 0 by omega)
  have e3 := Int.emod_lt_of_pos (mA s * d + m * mB s) hp
  generalize hu : (mA s * d + m * mB s) / (mB s * d) = u at e1
  generalize (mA s * d + m * mB s) % (mB s * d) = r at e1 e2 e3
  have b0 : 0 ≤ u := by
    rw [← hu]
    exact Int.ediv_nonneg (Int.add_nonneg (Int.mul_nonneg h0 (by omega)) (Int.mul_nonneg hn.1 (by omega))) (Int.le_of_lt hp)
  have b1 : u < 501 := by
    have x1 : mA s * d < mB s * d := Int.mul_lt_mul_of_pos_right h1 (by omega)
    have x2 : m * mB s ≤ 500 * d * mB s := Int.mul_le_mul_of_nonneg_right hn.2 (by omega)
    have x3 : 500 * d * mB s = 500 * (mB s * d) := by rw [Int.mul_assoc, Int.mul_comm d]
    have x4 : mB s * d * u < mB s * d * 501 := by omega
    exact Int.lt_of_mul_lt_mul_left x4 (Int.le_of_lt hp)
  have hv : (Int32.ofInt u).toInt = u := Int32.toInt_ofInt_of_le (by omega) (by omega)
  rw [hv, n_add (by omega) (by omega), hv, Int.mul_comm u]
  omega
theorem pig : ∀ (N p : Nat) (g : Nat → Nat), (∀ i, i < p → g i < N) → (∀ i j, i < j → j < p → ¬ g i = g j) → p ≤ N
  | 0, p, g, h, _ => by
    rcases Nat.eq_zero_or_pos p with e | e
    · omega
    · exact absurd (h 0 e) (Nat.not_lt_zero _)
  | N + 1, p, g, h, hi => by
    by_cases hz : ∃ i, i < p ∧ g i = N
    · obtain ⟨i0, h1, h2⟩ := hz
      have q := pig N (p - 1) (fun i => if i < i0 then g i else g (i + 1)) (fun i hi' => by
        by_cases c : i < i0
        · rw [if_pos c]
          have a := h i (by omega)
          have b := hi i i0 c h1
          omega
        · rw [if_neg c]
          have a := h (i + 1) (by omega)
          have b := hi i0 (i + 1) (by omega) (by omega)
          omega) (fun i j hij hj => by
        by_cases c : j < i0
        · rw [if_pos c, if_pos (by omega)]; exact hi i j hij (by omega)
        · rw [if_neg c]
          by_cases c2 : i < i0
          · rw [if_pos c2]; exact hi i (j + 1) (by omega) (by omega)
          · rw [if_neg c2]; exact hi (i + 1) (j + 1) (by omega) (by omega))
      omega
    · have q := pig N p g (fun i hi' => by
        have a := h i hi'
        have b : ¬ g i = N := fun e => hz ⟨i, hi', e⟩
        omega) hi
      omega
end Ms
