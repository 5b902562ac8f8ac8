/-! the reference's floor of a sum -/
theorem n_shl34 {x : Int64} (hx : 0 ≤ x.toInt ∧ x.toInt < 268435456) : (x <<< (Int32.toInt64 34 &&& 63)).toInt = x.toInt * 17179869184 := by
  have ex : (x.toBitVec.toNat : Int) = x.toInt := by
    have h : x.toInt = x.toBitVec.toInt := rfl
    rw [BitVec.toInt_eq_toNat_cond] at h
    split at h <;> omega
  have e1 : (x <<< (Int32.toInt64 34 &&& 63)).toBitVec = x.toBitVec <<< (34 : Nat) := by
    show x.toBitVec <<< ((Int32.toInt64 34 &&& 63).toBitVec.smod 64) = _
    rw [show (Int32.toInt64 34 &&& 63).toBitVec.smod 64 = 34#64 from by decide]
    rfl
  have e2 : (x.toBitVec <<< (34 : Nat)).toNat = x.toBitVec.toNat * 17179869184 := by
    rw [BitVec.toNat_shiftLeft, Nat.shiftLeft_eq, Nat.mod_eq_of_lt (by omega)]
  show (x <<< (Int32.toInt64 34 &&& 63)).toBitVec.toInt = _
  rw [e1, BitVec.toInt_eq_toNat_of_lt (by rw [e2]; omega), e2]
  omega
theorem u1_cm {α : Type} (F : Nat → α) {a b : Nat} (h : a ≠ b) (x y : α) : u1 (u1 F a x) b y = u1 (u1 F b y) a x := by
  funext i; unfold u1
  by_cases h1 : i = a
  · subst h1; rw [if_neg h, if_pos rfl, if_pos rfl]
  · rw [if_neg h1, if_neg h1]
theorem u2_self {α : Type} (F : Nat → Nat → α) (a k : Nat) : u2 F a k (F a k) = F := by
  funext x y; unfold u2
  by_cases h : x = a
  · subst h
    by_cases h2 : y = k
    · subst h2; simp
    · simp [h2]
  · simp [h]
theorem u2_2 {α : Type} (F : Nat → Nat → α) (a k : Nat) (x y : α) : u2 (u2 F a k x) a k y = u2 F a k y := by
  funext i j; unfold u2
  by_cases h : i = a
  · by_cases h2 : j = k
    · simp [h, h2]
    · simp [h, h2]
  · simp [h]
theorem u1_1 {α : Type} (F : Nat → α) (a : Nat) (x y : α) : u1 (u1 F a x) a y = u1 F a y := by
  funext i; unfold u1
  by_cases h : i = a
  · simp [h]
  · simp [h]
section MWhole
variable {S : Nat → Nat × Nat} {I : Nat → Nat → Int32} {J : Nat → Nat → Int64} {R : Nat → Nat → Option Nat} {nn : Nat} {K : Option AV → AX → Prop} {KX : String → AX → Prop} {a0 : Int32} {n : Nat}
/-- the quick way -/
theorem whole_quick (hn : n ≤ 170) (h59 : I 42 59 = nI n) (hg : goodP (J 87) (J 88) n)
    (hK : ∀ s : Int64, s.toInt = fQ (J 87) (J 88) n → r_X12_whole tb0 K KX 48 [some (vR (some 42)), some (vI a0), some (vL 17179869184), none, some (vL s), none, some (vI (nI n)), none] [] (S, I, J, R, nn) 0 0) :
    ∀ (r i : Nat) (s : Int64), i + r = n → s.toInt = fQ (J 87) (J 88) i → r_X12_whole tb0 K KX 10 [some (vR (some 42)), some (vI a0), some (vL 17179869184), none, some (vL s), none, some (vI (nI i)), none] [] (S, I, J, R, nn) 0 0
  | 0, i, s, hi, hs => by
    have e : i = n := by omega
    subst e
    refine e_X12_whole_10 ⟨fun _ => hK s hs, fun c => absurd ?_ c⟩
    show I 42 59 ≤ nI i
    rw [h59]; exact nI_le (Nat.le_refl _) (by omega)
  | r + 1, i, s, hi, hs => by
    refine e_X12_whole_10 ⟨fun c => ?_, fun _ => ⟨vp_in_nI (by omega) (by decide), vp_in_nI (by omega) (by decide), ?_⟩⟩
    · have c' : I 42 59 ≤ nI i := c
      rw [h59] at c'
      exact absurd c' (nI_ge (by omega) (by omega))
    · rw [nI_clamp (by omega)]
      obtain ⟨a, b, c⟩ := hg i (by omega)
      obtain ⟨q1, q2, -⟩ := fQ_ok (f := J 87) (g := J 88) (n := i) (fun k hk => hg k (by omega))
      have g0 : 0 < (J 88 i).toInt := by omega
      have e1 : (J 87 i <<< (Int32.toInt64 34 &&& 63)).toInt = (J 87 i).toInt * 17179869184 := n_shl34 ⟨a, by omega⟩
      have e2 : (J 87 i <<< (Int32.toInt64 34 &&& 63) / J 88 i).toInt = (J 87 i).toInt * 17179869184 / (J 88 i).toInt := by rw [n_divL (by omega) g0, e1]
      have u0 : 0 ≤ (J 87 i).toInt * 17179869184 / (J 88 i).toInt := Int.ediv_nonneg (by omega) (by omega)
      have u1 : (J 87 i).toInt * 17179869184 / (J 88 i).toInt < 17179869184 := Int.ediv_lt_of_lt_mul g0 (by rw [Int.mul_comm 17179869184]; omega)
      refine ⟨fun z => ?_, ?_⟩
      · have z' : J 88 i = 0 := z
        rw [z'] at g0; exact absurd g0 (by decide)
      · rw [nI_1]
        refine whole_quick hn h59 hg hK r (i + 1) _ (by omega) ?_
        show (s + (J 87 i <<< (Int32.toInt64 34 &&& 63) / J 88 i)).toInt = _
        rw [fQ, n_addL] <;> rw [e2, hs]
        · omega
        · omega
/-- the rows are made empty -/
theorem whole_zero {l4 : Int64} (hK : r_X12_whole tb0 K KX 106 [some (vR (some 42)), some (vI a0), some (vL 17179869184), none, some (vL l4), none, some (vI (nI 180)), none] [] (S, I, u1 (u1 J 89 (fun j => if j < 180 then 0 else J 89 j)) 90 (fun j => if j < 180 then 0 else J 90 j), R, nn) 0 0) :
    ∀ (r i : Nat), i + r = 180 → r_X12_whole tb0 K KX 76 [some (vR (some 42)), some (vI a0), some (vL 17179869184), none, some (vL l4), none, some (vI (nI i)), none] [] (S, I, u1 (u1 J 89 (fun j => if j < i then 0 else J 89 j)) 90 (fun j => if j < i then 0 else J 90 j), R, nn) 0 0
  | 0, i, hi => by
    have e : i = 180 := by omega
    subst e
    exact e_X12_whole_76 ⟨fun _ => hK, fun c => absurd (nI_le (a := 180) (Nat.le_refl _) (by decide)) c⟩
  | r + 1, i, hi => by
    refine e_X12_whole_76 ⟨fun c => absurd c (nI_ge (a := i) (b := 180) (by omega) (by decide)), fun _ => ⟨vp_in_nI (by omega) (by decide), vp_in_nI (by omega) (by decide), ?_⟩⟩
    rw [nI_1, nI_clamp (by omega)]
    have e : ∀ w : Nat → Int64, stf (fun j => if j < i then 0 else w j) i 0 = fun j => if j < i + 1 then 0 else w j := fun w => by
      funext j
      show (if j = i then 0 else if j < i then 0 else w j) = if j < i + 1 then 0 else w j
      by_cases h : j = i
      · rw [if_pos h, if_pos (by omega)]
      · rw [if_neg h]
        by_cases h2 : j < i
        · rw [if_pos h2, if_pos (by omega)]
        · rw [if_neg h2, if_neg (by omega)]
    show r_X12_whole tb0 K KX 76 _ [] (S, I, u2 (u2 (u1 (u1 J 89 _) 90 _) 89 i 0) 90 i 0, R, nn) 0 0
    rw [u1_cm J (by decide : (89 : Nat) ≠ 90), u2_u1, u1_cm J (by decide : (90 : Nat) ≠ 89), u2_u1, e, e]
    exact whole_zero hK r (i + 1) (by omega)
/-- below times a part's top, added to above -/
theorem whole_add {l4 : Int64} {k : Nat} (hk : k < 170) {b : Nat → Int64} (hb : J 90 = b) (hK : ∀ g, (∀ j, j < 180 → g j = J 89 j + b j * J 87 k) → r_X12_whole tb0 K KX 181 [some (vR (some 42)), some (vI a0), some (vL 17179869184), none, some (vL l4), none, some (vI (nI k)), some (vI (nI 180))] [] (S, I, u1 J 89 g, R, nn) 0 0) :
    ∀ (r i : Nat) (g : Nat → Int64), i + r = 180 → (∀ j, j < i → g j = J 89 j + b j * J 87 k) → (∀ j, i ≤ j → g j = J 89 j) → r_X12_whole tb0 K KX 142 [some (vR (some 42)), some (vI a0), some (vL 17179869184), none, some (vL l4), none, some (vI (nI k)), some (vI (nI i))] [] (S, I, u1 J 89 g, R, nn) 0 0
  | 0, i, g, hi, h1, h2 => by
    have e : i = 180 := by omega
    subst e
    exact e_X12_whole_142 ⟨fun _ => hK g h1, fun c => absurd (nI_le (a := 180) (Nat.le_refl _) (by decide)) c⟩
  | r + 1, i, g, hi, h1, h2 => by
    refine e_X12_whole_142 ⟨fun c => absurd c (nI_ge (a := i) (b := 180) (by omega) (by decide)), fun _ => ⟨vp_in_nI (by omega) (by decide), vp_in_nI (by omega) (by decide), vp_in_nI hk (by decide), vp_in_nI (by omega) (by decide), ?_⟩⟩
    rw [nI_1, nI_clamp (by omega), nI_clamp (by omega)]
    show r_X12_whole tb0 K KX 142 _ [] (S, I, u2 (u1 J 89 g) 89 i (g i + J 90 i * J 87 k), R, nn) 0 0
    rw [u2_u1]
    refine whole_add hk hb hK r (i + 1) _ (by omega) (fun j hj => ?_) (fun j hj => ?_)
    · by_cases hji : j = i
      · subst hji; rw [stf_at, h2 j (Nat.le_refl _), hb]
      · rw [stf_ne _ _ hji]; exact h1 j (by omega)
    · rw [stf_ne _ _ (by omega)]; exact h2 j (by omega)
set_option maxRecDepth 20000 in
set_option maxHeartbeats 2000000 in
/-- the exact sum, part by part -/
theorem whole_sum (hn : n ≤ 170) (h59 : I 42 59 = nI n) (hg : goodP (J 87) (J 88) n) {l4 : Int64}
    (hK : ∀ a b o, (o = none ∨ ∃ x, o = some (vI x)) → jg a 180 → jg b 180 → jv a 180 = fN' (J 87) (J 88) n → jv b 180 = fD (J 88) n → r_X12_whole tb0 K KX 208 [some (vR (some 42)), some (vI a0), some (vL 17179869184), none, some (vL l4), none, some (vI (nI n)), o] [] (S, I, u1 (u1 J 89 a) 90 b, R, nn) 0 0) :
    ∀ (r k : Nat) (a b : Nat → Int64) (o : Option AV), k + r = n → (o = none ∨ ∃ x, o = some (vI x)) → jg a 180 → jg b 180 → jv a 180 = fN' (J 87) (J 88) k → jv b 180 = fD (J 88) k →
      r_X12_whole tb0 K KX 116 [some (vR (some 42)), some (vI a0), some (vL 17179869184), none, some (vL l4), none, some (vI (nI k)), o] [] (S, I, u1 (u1 J 89 a) 90 b, R, nn) 0 0
  | 0, k, a, b, o, hk, ho, ha, hb, va, vb => by
    have e : k = n := by omega
    subst e
    have c : I 42 59 ≤ nI k := by rw [h59]; exact nI_le (Nat.le_refl _) (by omega)
    have q := hK a b o ho ha hb va vb
    rcases ho with rfl | ⟨x, rfl⟩
    · exact e_X12_whole_116 ⟨fun _ => q, fun z => absurd c z⟩
    · exact e_X12_whole_116b ⟨fun _ => q, fun z => absurd c z⟩
  | r + 1, k, a, b, o, hk, ho, ha, hb, va, vb => by
    have c : ¬ I 42 59 ≤ nI k := by rw [h59]; exact nI_ge (by omega) (by omega)
    have hgk : goodP (J 87) (J 88) k := fun j hj => hg j (by omega)
    obtain ⟨g1, g2, g3⟩ := hg k (by omega)
    have hgk1 : goodP (J 87) (J 88) (k + 1) := fun j hj => hg j (by omega)
    obtain ⟨n1, n2, -⟩ := fN_rng hgk
    obtain ⟨m1, m2, -⟩ := fN_rng hgk1
    have p1 := fD_le hgk1
    have p0 := fD_pos hgk
    have p2 := fD_pos hgk1
    have pb := pow_big (n := k + 1) (by omega)
    have eN : fN' (J 87) (J 88) (k + 1) = fN' (J 87) (J 88) k * (J 88 k).toInt + fD (J 88) k * (J 87 k).toInt := rfl
    have eD : fD (J 88) (k + 1) = fD (J 88) k * (J 88 k).toInt := rfl
    have q0 : 0 ≤ fD (J 88) k * (J 87 k).toInt := Int.mul_nonneg (by omega) g1
    have q1 : ((k + 1 : Nat) : Int) * fD (J 88) (k + 1) ≤ 200 * fD (J 88) (k + 1) := Int.mul_le_mul_of_nonneg_right (by omega) (by omega)
    have q2 : 0 ≤ fN' (J 87) (J 88) k * (J 88 k).toInt := Int.mul_nonneg n1 (by omega)
    have main : w_X12_times tb0 [vR (some 89), vL (J 88 k)] (S, I, u1 (u1 J 89 a) 90 b, R, nn) (fun v2 X1 => rV v2 (r_X12_whole tb0 K KX 142 [some (vR (some 42)), some (vI a0), some (vL 17179869184), none, some (vL l4), none, some (vI (nI k)), some (vI 0)] [] X1 0 0)) KX := by
      rw [u1_cm J (by decide : (89 : Nat) ≠ 90)]
      refine s_times (by decide) (fun _ => rfl) ha ⟨by omega, g3⟩ (by rw [va, Int.mul_comm]; omega) (fun a1 ha1 va1 => rV_in ?_)
      refine whole_add (J := u1 (u1 J 90 b) 89 a1) (k := k) (by omega) (b := b) rfl (fun a2 h2 => e_X12_whole_181 ?_) 180 0 a1 rfl (fun j hj => absurd hj (Nat.not_lt_zero _)) (fun j _ => rfl) |> fun z => by
        rw [u1_1] at z; exact z
      have h2' : ∀ j, j < 180 → (a2 j).toInt = (a1 j).toInt + (b j).toInt * (J 87 k).toInt ∧ 0 ≤ (b j).toInt * (J 87 k).toInt ∧ (b j).toInt * (J 87 k).toInt ≤ 53687091200000000 := fun j hj => by
        obtain ⟨u1', u2', u3'⟩ := mulL_bd (hb j hj) (v := J 87 k) ⟨g1, by omega⟩
        refine ⟨?_, u2', u3'⟩
        have z : a2 j = a1 j + b j * J 87 k := h2 j hj
        have := ha1 j hj
        rw [z, n_addL] <;> rw [u1'] <;> omega
      have va2 : jv a2 180 = fN' (J 87) (J 88) (k + 1) := by
        rw [jv_lin (f := a1) (e := b) (v := (J 87 k).toInt) (fun j hj => (h2' j hj).1), va1, va, vb, eN]
        rw [Int.mul_comm (J 88 k).toInt, Int.mul_comm (J 87 k).toInt]
      show w_X12_carry tb0 [vR (some 89)] (S, I, u1 (u1 (u1 J 90 b) 89 a1) 89 a2, R, nn) _ KX
      rw [u1_1]
      refine s_carry (by decide) (fun _ => rfl) (fun j hj => ?_) (by omega) (by omega) (fun a3 ha3 va3 => rV_in ⟨vp_in_nI (by omega) (by decide), ?_⟩)
      · obtain ⟨z1, z2, z3⟩ := h2' j hj
        have := ha1 j hj
        omega
      · rw [nI_clamp (by omega)]
        show w_X12_times tb0 [vR (some 90), vL (J 88 k)] (S, I, u1 (u1 J 90 b) 89 a3, R, nn) _ KX
        rw [u1_cm J (by decide : (90 : Nat) ≠ 89)]
        refine s_times (by decide) (fun _ => rfl) hb ⟨by omega, g3⟩ (by rw [vb, Int.mul_comm, ← eD]; omega) (fun b1 hb1 vb1 => rV_in ?_)
        rw [nI_1]
        exact whole_sum hn h59 hg hK r (k + 1) a3 b1 _ (by omega) (Or.inr ⟨_, rfl⟩) ha3 hb1 (va3.trans va2) (by rw [vb1, vb, eD, Int.mul_comm])
    rcases ho with rfl | ⟨x, rfl⟩
    · refine e_X12_whole_116 ⟨fun z => absurd z c, fun _ => ⟨vp_in_nI (by omega) (by decide), ?_⟩⟩
      rw [nI_clamp (by omega)]
      exact main
    · refine e_X12_whole_116b ⟨fun z => absurd z c, fun _ => ⟨vp_in_nI (by omega) (by decide), ?_⟩⟩
      rw [nI_clamp (by omega)]
      exact main
/-- below taken away from above -/
theorem whole_sub {l4 : Int64} {l6 : Int32} {b : Nat → Int64} (hb : J 90 = b) (hK : ∀ g, (∀ j, j < 180 → g j = J 89 j - b j) → r_X12_whole tb0 K KX 266 [some (vR (some 42)), some (vI a0), some (vL 17179869184), none, some (vL l4), none, some (vI l6), some (vI (nI 180))] [] (S, I, u1 J 89 g, R, nn) 0 0) :
    ∀ (r i : Nat) (g : Nat → Int64), i + r = 180 → (∀ j, j < i → g j = J 89 j - b j) → (∀ j, i ≤ j → g j = J 89 j) → r_X12_whole tb0 K KX 235 [some (vR (some 42)), some (vI a0), some (vL 17179869184), none, some (vL l4), none, some (vI l6), some (vI (nI i))] [] (S, I, u1 J 89 g, R, nn) 0 0
  | 0, i, g, hi, h1, h2 => by
    have e : i = 180 := by omega
    subst e
    exact e_X12_whole_235 ⟨fun _ => hK g h1, fun c => absurd (nI_le (a := 180) (Nat.le_refl _) (by decide)) c⟩
  | r + 1, i, g, hi, h1, h2 => by
    refine e_X12_whole_235 ⟨fun c => absurd c (nI_ge (a := i) (b := 180) (by omega) (by decide)), fun _ => ⟨vp_in_nI (by omega) (by decide), vp_in_nI (by omega) (by decide), vp_in_nI (by omega) (by decide), ?_⟩⟩
    rw [nI_1, nI_clamp (by omega)]
    show r_X12_whole tb0 K KX 235 _ [] (S, I, u2 (u1 J 89 g) 89 i (g i - J 90 i), R, nn) 0 0
    rw [u2_u1]
    refine whole_sub hb hK r (i + 1) _ (by omega) (fun j hj => ?_) (fun j hj => ?_)
    · by_cases hji : j = i
      · subst hji; rw [stf_at, h2 j (Nat.le_refl _), hb]
      · rw [stf_ne _ _ hji]; exact h1 j (by omega)
    · rw [stf_ne _ _ (by omega)]; exact h2 j (by omega)
/-- whether nothing is left -/
theorem whole_exact {l4 : Int64} {q : Int32} (hK : ∀ e : Int32, bl e → (e = 1 ↔ ∀ j, j < 180 → J 89 j = 0) → K (some (vI q)) (S, u2 I 42 60 e, J, R, nn)) :
    ∀ (r i : Nat) (e : Int32), i + r = 180 → bl e → (e = 1 ↔ ∀ j, j < i → J 89 j = 0) → r_X12_whole tb0 K KX 287 [some (vR (some 42)), some (vI a0), some (vL 17179869184), none, some (vL l4), none, some (vI q), some (vI (nI i))] [] (S, u2 I 42 60 e, J, R, nn) 0 0
  | 0, i, e, hi, hb, he => by
    have e' : i = 180 := by omega
    subst e'
    exact e_X12_whole_287 ⟨fun _ => e_X12_whole_329 (hK e hb he), fun c => absurd (nI_le (a := 180) (Nat.le_refl _) (by decide)) c⟩
  | r + 1, i, e, hi, hb, he => by
    refine e_X12_whole_287 ⟨fun c => absurd c (nI_ge (a := i) (b := 180) (by omega) (by decide)), fun _ => ⟨fun c => e_X12_whole_319 (e_X12_whole_320 ⟨Or.inl rfl, ?_⟩), fun c => ⟨vp_in_nI (by omega) (by decide), ?_⟩⟩⟩
    · have c' : e = 0 := c
      show r_X12_whole tb0 K KX 287 _ [] (S, u2 (u2 I 42 60 e) 42 60 0, J, R, nn) 0 0
      rw [u2_2, nI_1]
      refine whole_exact hK r (i + 1) 0 (by omega) (Or.inl rfl) ⟨fun z => absurd z (by decide), fun z => ?_⟩
      have := he.mpr (fun j hj => z j (by omega))
      rw [c'] at this; exact this
    · have c' : e = 1 := hb.resolve_left c
      rw [nI_clamp (by omega)]
      refine ⟨fun z => e_X12_whole_319 (e_X12_whole_320 ⟨Or.inl rfl, ?_⟩), fun z => e_X12_whole_320 ⟨Or.inr rfl, ?_⟩⟩
      · show r_X12_whole tb0 K KX 287 _ [] (S, u2 (u2 I 42 60 e) 42 60 0, J, R, nn) 0 0
        rw [u2_2, nI_1]
        refine whole_exact hK r (i + 1) 0 (by omega) (Or.inl rfl) ⟨fun z => absurd z (by decide), fun w => absurd ?_ z⟩
        exact (lg_cmp_eq _ _).mpr (w i (by omega))
      · show r_X12_whole tb0 K KX 287 _ [] (S, u2 (u2 I 42 60 e) 42 60 1, J, R, nn) 0 0
        rw [u2_2, nI_1]
        exact whole_exact hK r (i + 1) 1 (by omega) (Or.inr rfl) ⟨fun _ => lt_s (he.mp c') ((lg_cmp_eq _ _).mp z), fun _ => rfl⟩
theorem jv_0 {f : Nat → Int64} : ∀ {n : Nat}, (∀ j, j < n → f j = 0) → jv f n = 0
  | 0, _ => rfl
  | n + 1, h => by
    rw [jv, jv_0 (fun j hj => h j (by omega)), h n (by omega)]
    have e : (0 : Int64).toInt = 0 := rfl
    rw [e]; omega
set_option maxRecDepth 20000 in
set_option maxHeartbeats 2000000 in
/-- wholes are taken out one by one -/
theorem whole_out {N D : Int} (hD : 0 < D) (hN : N < 200 * D) (hDb : D * 200 < (268435456 : Int) ^ 179) {l4 : Int64}
    (hK : ∀ (q : Nat) (e : Int32) a b, N / D = q → bl e → (e = 1 ↔ N % D = 0) → K (some (vI (nI q))) (S, u2 I 42 60 e, u1 (u1 J 89 a) 90 b, R, nn)) :
    ∀ (r q : Nat) (a b : Nat → Int64) (o : Option AV), q + r = 200 → (o = none ∨ ∃ x, o = some (vI x)) → jg a 180 → jg b 180 → jv b 180 = D → N = q * D + jv a 180 →
      r_X12_whole tb0 K KX 211 [some (vR (some 42)), some (vI a0), some (vL 17179869184), none, some (vL l4), none, some (vI (nI q)), o] [] (S, I, u1 (u1 J 89 a) 90 b, R, nn) 0 0
  | 0, q, a, b, o, hq, ho, ha, hb, vb, hv => by
    exfalso
    have e : q = 200 := by omega
    subst e
    have := (jv_rng ha).1
    omega
  | r + 1, q, a, b, o, hq, ho, ha, hb, vb, hv => by
    have a0' := (jv_rng ha).1
    have stay : jv a 180 < D → ∀ o, (o = none ∨ ∃ x, o = some (vI x)) → r_X12_whole tb0 K KX 279 [some (vR (some 42)), some (vI a0), some (vL 17179869184), none, some (vL l4), none, some (vI (nI q)), o] [] (S, I, u1 (u1 J 89 a) 90 b, R, nn) 0 0 := fun hlt o ho => by
      have main : r_X12_whole tb0 K KX 287 [some (vR (some 42)), some (vI a0), some (vL 17179869184), none, some (vL l4), none, some (vI (nI q)), some (vI 0)] [] (S, u2 I 42 60 1, u1 (u1 J 89 a) 90 b, R, nn) 0 0 := by
        refine whole_exact (J := u1 (u1 J 89 a) 90 b) (fun e hbe he => hK q e a b ?_ hbe ?_) 180 0 1 rfl (Or.inr rfl) ⟨fun _ j hj => absurd hj (Nat.not_lt_zero _), fun _ => rfl⟩
        · exact fl_eq hD (by omega) (by rw [Int.add_mul, Int.one_mul]; omega)
        · have em : N % D = jv a 180 := by rw [hv, Int.add_comm, Int.add_mul_emod_self_right, Int.emod_eq_of_lt a0' hlt]
          rw [em, he]
          refine ⟨fun z => jv_0 z, fun z => ?_⟩
          refine j_ne (f := a) (g := fun _ => 0) ha (fun j hj => ?_) ?_
          · show 0 ≤ (0 : Int64).toInt ∧ (0 : Int64).toInt < 268435456
            decide
          · rw [z, jv_0 (fun j _ => rfl)]
      rcases ho with rfl | ⟨x, rfl⟩
      · exact e_X12_whole_279 ⟨Or.inr rfl, main⟩
      · exact e_X12_whole_279b ⟨Or.inr rfl, main⟩
    have go : D ≤ jv a 180 → ∀ o, (o = none ∨ ∃ x, o = some (vI x)) → r_X12_whole tb0 K KX 232 [some (vR (some 42)), some (vI a0), some (vL 17179869184), none, some (vL l4), none, some (vI (nI q)), o] [] (S, I, u1 (u1 J 89 a) 90 b, R, nn) 0 0 := fun hge o ho => by
      have main : r_X12_whole tb0 K KX 235 [some (vR (some 42)), some (vI a0), some (vL 17179869184), none, some (vL l4), none, some (vI (nI q)), some (vI 0)] [] (S, I, u1 (u1 J 89 a) 90 b, R, nn) 0 0 := by
        rw [u1_cm J (by decide : (89 : Nat) ≠ 90)]
        have z := whole_sub (K := K) (KX := KX) (S := S) (I := I) (R := R) (nn := nn) (a0 := a0) (l4 := l4) (l6 := nI q) (J := u1 (u1 J 90 b) 89 a) (b := b) rfl (fun g h2 => e_X12_whole_266 ?_) 180 0 a rfl (fun j hj => absurd hj (Nat.not_lt_zero _)) (fun j _ => rfl)
        · rw [u1_1] at z; exact z
        · have h2' : ∀ j, j < 180 → (g j).toInt = (a j).toInt + (b j).toInt * (-1) := fun j hj => by
            have z : g j = a j - b j := h2 j hj
            have u := ha j hj
            have w := hb j hj
            rw [z, n_subL] <;> omega
          have vg : jv g 180 = jv a 180 + (-1) * jv b 180 := jv_lin h2'
          show w_X12_carry tb0 [vR (some 89)] (S, I, u1 (u1 (u1 J 90 b) 89 a) 89 g, R, nn) _ KX
          rw [u1_1]
          have hua := (jv_rng ha).2
          have hub := (jv_rng hb).1
          refine s_carry (by decide) (fun _ => rfl) (fun j hj => ?_) (by omega) ?_ (fun a3 ha3 va3 => rV_in ?_)
          · have := h2' j hj
            have u := ha j hj
            have w := hb j hj
            omega
          · have : jv a 180 ≤ N := by
              have : 0 ≤ (q : Int) * D := Int.mul_nonneg (by omega) (by omega)
              omega
            omega
          · rw [nI_1]
            rw [u1_cm J (by decide : (90 : Nat) ≠ 89)]
            refine whole_out hD hN hDb hK r (q + 1) a3 b _ (by omega) (Or.inr ⟨_, rfl⟩) ha3 hb vb ?_
            rw [va3, vg, vb, Int.natCast_add, Int.add_mul]; omega
      rcases ho with rfl | ⟨x, rfl⟩
      · exact e_X12_whole_232 main
      · exact e_X12_whole_232b main
    have main : ∀ {o}, (o = none ∨ ∃ x, o = some (vI x)) → w_X12_isLess tb0 [vR (some 90), vR (some 89)] (S, I, u1 (u1 J 89 a) 90 b, R, nn) (fun v2 X1 => rI v2 fun y3 => (¬ y3 = (0 : Int32) → r_X12_whole tb0 K KX 232 [some (vR (some 42)), some (vI a0), some (vL 17179869184), none, some (vL l4), none, some (vI (nI q)), o] [] X1 0 0) ∧ (y3 = (0 : Int32) → w_X12_isAlike tb0 [vR (some 42)] X1 (fun v5 X4 => rI v5 fun y6 => (y6 = (0 : Int32) → r_X12_whole tb0 K KX 279 [some (vR (some 42)), some (vI a0), some (vL 17179869184), none, some (vL l4), none, some (vI (nI q)), o] [] X4 0 0) ∧ (¬ y6 = (0 : Int32) → r_X12_whole tb0 K KX 232 [some (vR (some 42)), some (vI a0), some (vL 17179869184), none, some (vL l4), none, some (vI (nI q)), o] [] X4 0 0)) (KX))) (KX) := fun {o} ho => by
      refine s_isLess (J := u1 (u1 J 89 a) 90 b) hb ha (fun x hx => rI_in ⟨fun c => ?_, fun c => ?_⟩)
      · rcases hx with ⟨-, z⟩ | ⟨z, -⟩
        · have z' : jv b 180 < jv a 180 := z
          exact go (by omega) o ho
        · exact absurd z c
      · rcases hx with ⟨z, -⟩ | ⟨-, z⟩
        · rw [z] at c; exact absurd c (by decide)
        · have z' : jv a 180 ≤ jv b 180 := z
          refine s_isAlike (J := u1 (u1 J 89 a) 90 b) (fun y hy => rI_in ⟨fun c1 => ?_, fun c1 => ?_⟩)
          · rcases hy with ⟨w, -⟩ | ⟨-, i, hi, w⟩
            · rw [w] at c1; exact absurd c1 (by decide)
            · refine stay ?_ o ho
              rcases Int.lt_or_eq_of_le z' with v | v
              · omega
              · exact absurd (j_ne ha hb v i hi) w
          · rcases hy with ⟨-, w⟩ | ⟨w, -⟩
            · have w' : jv a 180 = jv b 180 := w
              exact go (by omega) o ho
            · exact absurd w c1
    rcases ho with rfl | ⟨x, rfl⟩
    · exact e_X12_whole_211 (main (Or.inl rfl))
    · exact e_X12_whole_211b (main (Or.inr ⟨x, rfl⟩))
set_option maxRecDepth 20000 in
set_option maxHeartbeats 2000000 in
theorem s_whole (hn : n ≤ 170) (h59 : I 42 59 = nI n) (hg : goodP (J 87) (J 88) n)
    (hK : ∀ (q : Nat) (e : Int32) a b, fN' (J 87) (J 88) n / fD (J 88) n = q → (¬ a0 = 0 → bl e ∧ (e = 1 ↔ fN' (J 87) (J 88) n % fD (J 88) n = 0)) → K (some (vI (nI q))) (S, u2 I 42 60 e, u1 (u1 J 89 a) 90 b, R, nn)) : w_X12_whole tb0 [vR (some 42), vI a0] (S, I, J, R, nn) K KX := by
  have hD := fD_pos hg
  have hDl := fD_le hg
  obtain ⟨hN0, hN1, -⟩ := fN_rng hg
  have pb := pow_big (n := n) (by omega)
  have q1 : (n : Int) * fD (J 88) n ≤ 170 * fD (J 88) n := Int.mul_le_mul_of_nonneg_right (by omega) (by omega)
  have slow : ∀ (s : Int64) (l6 : Int32), r_X12_whole tb0 K KX 73 [some (vR (some 42)), some (vI a0), some (vL 17179869184), none, some (vL s), none, some (vI l6), none] [] (S, I, J, R, nn) 0 0 := fun s l6 => by
    refine e_X12_whole_73 ?_
    have z := whole_zero (K := K) (KX := KX) (S := S) (I := I) (J := J) (R := R) (nn := nn) (a0 := a0) (l4 := s) ?_ 180 0 rfl
    · have e : ∀ w : Nat → Int64, (fun j => if j < 0 then 0 else w j) = w := fun w => by funext j; rw [if_neg (by omega)]
      rw [e, e, u1_self] at z
      have z2 : u1 J 90 (J 90) = J := u1_self J 90
      rw [z2] at z
      exact z
    · refine e_X12_whole_106 ⟨by unfold vp_in; decide, ?_⟩
      show r_X12_whole tb0 K KX 116 _ [] (S, I, u2 (u1 (u1 J 89 _) 90 _) 90 0 1, R, nn) 0 0
      rw [u2_u1]
      refine whole_sum hn h59 hg (fun a b o ho ha hb va vb => ?_) n 0 _ _ none (by omega) (Or.inl rfl) (fun i hi => ?_) (fun i hi => ?_) ?_ ?_
      · have z := whole_out (K := K) (KX := KX) (S := S) (I := I) (J := J) (R := R) (nn := nn) (a0 := a0) (l4 := s) hD (by omega) (by omega) (fun q e a' b' h1 h2 h3 => hK q e a' b' h1 (fun _ => ⟨h2, h3⟩)) 200 0 a b o rfl ho ha hb vb (by rw [va]; omega)
        rcases ho with rfl | ⟨x, rfl⟩
        · exact e_X12_whole_208 z
        · exact e_X12_whole_208b z
      · show 0 ≤ (if i < 180 then (0 : Int64) else _).toInt ∧ (if i < 180 then (0 : Int64) else _).toInt < 268435456
        rw [if_pos hi]; decide
      · unfold stf
        by_cases h : i = 0
        · rw [if_pos h]; decide
        · rw [if_neg h]
          show 0 ≤ (if i < 180 then (0 : Int64) else _).toInt ∧ (if i < 180 then (0 : Int64) else _).toInt < 268435456
          rw [if_pos hi]; decide
      · rw [jv_0 (fun j hj => by rw [if_pos hj])]; rfl
      · rw [jv_stf (by decide), jv_0 (fun j hj => by rw [if_pos hj])]; rfl
  refine i_X12_whole (whole_quick hn h59 hg (fun s hs => e_X12_whole_48 ⟨fun _ => slow _ _, fun ha => ⟨by decide, fun c => slow _ _, fun c => ⟨by decide, ?_⟩⟩⟩) n 0 0 (by omega) rfl)
  clear slow pb hDl q1 hN0 hN1
  obtain ⟨f0, f1, -⟩ := fQ_ok hg
  have e1 : (17179869184 : Int64).toInt = 17179869184 := by decide
  have hr := n_remL (x := s) (y := 17179869184) (by omega) (by rw [e1]; decide)
  have hd := n_divL (x := s) (y := 17179869184) (by omega) (by rw [e1]; decide)
  rw [e1, hs] at hr hd
  have c2 : fQ (J 87) (J 88) n % 17179869184 + n ≤ 17179869184 := by
    have c' : ¬ 0 < lg_cmp ((s - s / 17179869184 * 17179869184) + Int32.toInt64 (I 42 59)) 17179869184 := c
    rw [lg_cmp_gt, Int64.lt_iff_toInt_lt, e1, h59] at c'
    have e3 : (Int32.toInt64 (nI n)).toInt = n := by rw [n_i2l, nI_toInt (by omega)]
    have r0 := Int.emod_nonneg (fQ (J 87) (J 88) n) (show (17179869184 : Int) ≠ 0 by decide)
    have r1 := Int.emod_lt_of_pos (fQ (J 87) (J 88) n) (show (0 : Int) < 17179869184 by decide)
    have e5 : ((s - s / 17179869184 * 17179869184) + Int32.toInt64 (nI n)).toInt = fQ (J 87) (J 88) n % 17179869184 + n := by
      rw [n_addL] <;> rw [hr, e3] <;> omega
    rw [e5] at c'
    omega
  have hfl := fQ_fl hg c2
  have q0 : 0 ≤ fQ (J 87) (J 88) n / 17179869184 := Int.ediv_nonneg f0 (by decide)
  have q2 : fQ (J 87) (J 88) n / 17179869184 ≤ n := Int.ediv_le_of_le_mul (by decide) f1
  have z := hK (fQ (J 87) (J 88) n / 17179869184).toNat (I 42 60) (J 89) (J 90) (by omega) (fun h => absurd ha h)
  rw [u2_self, u1_self, u1_self] at z
  have e4 : Int64.toInt32 (s / 17179869184) = nI (fQ (J 87) (J 88) n / 17179869184).toNat := Int32.toInt_inj.mp (by rw [n_l2i (by omega) (by omega), hd, nI_toInt (by omega)]; omega)
  rw [e4]
  exact z
end MWhole
