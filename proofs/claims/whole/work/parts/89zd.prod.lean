/-! products of limbs -/
section Prod
variable {b0 b1 m i : Nat} {S : Nat → Nat × Nat} {F : Nat → Nat → Int32} {J : Nat → Nat → Int64} {R : Nat → Nat → Option Nat} {nn : Nat} {fac : Int32} {K : Option AV → AX → Prop} {KX : String → AX → Prop}
theorem lv_stf {g : Nat → Int32} {j : Nat} {v : Int32} : ∀ {n : Nat}, j < n → lv (stf g j v) n = lv g n + (v.toInt - (g j).toInt) * (1073741824 : Int) ^ j
  | 0, h => absurd h (Nat.not_lt_zero _)
  | n + 1, h => by
    rw [lv, lv]
    by_cases e : j = n
    · subst e
      rw [stf_at, lv_cong (f := stf g j v) (g := g) (fun k hk => stf_ne _ _ (by omega)), Int.sub_mul]; omega
    · rw [stf_ne _ _ (show n ≠ j by omega), lv_stf (n := n) (by omega)]; omega
theorem nI_pl {a b : Nat} (h : a + b < 100000) : nI a + nI b = nI (a + b) := by
  have e1 : (nI a).toInt = a := nI_toInt (by omega)
  have e2 : (nI b).toInt = b := nI_toInt (by omega)
  have e3 : (nI (a + b)).toInt = (a + b : Nat) := nI_toInt (by omega)
  refine Int32.toInt_inj.mp ?_
  rw [n_add (by omega) (by omega), e1, e2, e3]; omega
theorem prod_in {V0 : Int} (hi : i < 24) (hm0 : m ≠ b0) (hm1 : m ≠ b1) (h4 : 4 ≤ m) (hsa : ∀ I, shp tb0 (S, I, J, R, nn) b0 = (1, 24)) (hsb : ∀ I, shp tb0 (S, I, J, R, nn) b1 = (1, 24)) (hsm : ∀ I, shp tb0 (S, I, J, R, nn) m = (1, 48)) (hga : lg (F b0) 24) (hgb : lg (F b1) 24)
    (hK : ∀ g' (c' : Int64), lg g' 48 → 0 ≤ c'.toInt → (∀ k, i + 24 ≤ k → k < 48 → g' k = 0) → lv g' 48 + c'.toInt * (1073741824 : Int) ^ (i + 24) = V0 + (F b0 i).toInt * (1073741824 : Int) ^ i * lv (F b1) 24 → r_X7_product tb0 K KX 94 [some (vR (some b0)), some (vR (some b1)), some (vI fac), some (vR (some m)), some (vI (nI i)), some (vL c'), none, some (vI (nI 24))] [] (S, u1 F m g', J, R, nn) 1 48) :
    ∀ (r j : Nat) (g : Nat → Int32) (c : Int64), j + r = 24 → lg g 48 → (0 ≤ c.toInt ∧ c.toInt ≤ 4294967296) → (∀ k, i + 24 ≤ k → k < 48 → g k = 0) → lv g 48 + c.toInt * (1073741824 : Int) ^ (i + j) = V0 + (F b0 i).toInt * (1073741824 : Int) ^ i * lv (F b1) j → r_X7_product tb0 K KX 28 [some (vR (some b0)), some (vR (some b1)), some (vI fac), some (vR (some m)), some (vI (nI i)), some (vL c), none, some (vI (nI j))] [] (S, u1 F m g, J, R, nn) 1 48
  | 0, j, g, c, hj, hg, hc, hz, hv => by
    obtain rfl : j = 24 := by omega
    exact e_X7_product_28 ⟨fun _ => hK g c hg hc.1 hz hv, fun w => absurd (by decide) w⟩
  | r + 1, j, g, c, hj, hg, hc, hz, hv => by
    have hfa : u1 F m g b0 = F b0 := u1_ne _ _ (fun h => hm0 h.symm)
    have hfb : u1 F m g b1 = F b1 := u1_ne _ _ (fun h => hm1 h.symm)
    have hfm : u1 F m g m = g := u1_at _ _ _
    have e24 : (24 : Int32) = nI 24 := by decide
    have ei : (nI i).toNatClampNeg = i := nI_clamp (by omega)
    have ej : (nI j).toNatClampNeg = j := nI_clamp (by omega)
    have eij : (nI (i + j)).toNatClampNeg = i + j := nI_clamp (by omega)
    refine e_X7_product_28 ⟨fun h => ?_, fun _ => ?_⟩
    · rw [e24] at h
      exact absurd h (nI_ge (by omega) (by omega))
    · rw [hsb, hsa]
      refine gd_in (show (0 : Nat) < 1 ∧ (1 : Nat) < 6 from by decide) ⟨fun h => absurd h (nI_ge (show j < 24 by omega) (by omega)), fun _ => onS_in ?_⟩
      rw [hsm, nI_pl (by omega), ei, ej, eij]
      refine gd_in rfl ⟨vp_in_nI (by omega) (by decide), gd_in rfl ⟨vp_in_nI (by omega) (by decide), gd_in rfl ⟨vp_in_nI (by omega) (by decide), onS_in ?_⟩⟩⟩
      rw [hsm]
      refine gd_in ⟨h4, rfl⟩ ⟨vp_in_nI (by omega) (by decide), ?_⟩
      show r_X7_product tb0 K KX 28 [some (vR (some b0)), some (vR (some b1)), some (vI fac), some (vR (some m)), some (vI (nI i)), some (vL ((c + (Int32.toInt64 (u1 F m g m (i + j)) + Int32.toInt64 (u1 F m g b0 i) * Int32.toInt64 (u1 F m g b1 j))) >>> (Int32.toInt64 30 &&& 63))), none, some (vI (nI j + 1))] [] (S, u2 (u1 F m g) m (i + j) (Int64.toInt32 ((c + (Int32.toInt64 (u1 F m g m (i + j)) + Int32.toInt64 (u1 F m g b0 i) * Int32.toInt64 (u1 F m g b1 j))) &&& 1073741823)), J, R, nn) 1 48
      rw [hfm, hfa, hfb, u2_u1, nI_1]
      obtain ⟨t, ht, e1, e2, b1', b2'⟩ := limb_step (c := c) (x := g (i + j)) (y := F b0 i) (f := F b1 j) ⟨by omega, hc.2⟩ (hg (i + j) (by omega)) (hga i hi)
      have hb := hgb j (by omega)
      have ha := hga i hi
      have hx := hg (i + j) (by omega)
      have hab := Int.mul_nonneg ha.1 hb.1
      have ht0 : 0 ≤ t := by rw [ht]; omega
      refine prod_in hi hm0 hm1 h4 hsa hsb hsm hga hgb hK r (j + 1) _ _ (by omega) (fun k hk => ?_) (by rw [e2]; exact ⟨Int.ediv_nonneg ht0 (by decide), b2'⟩) (fun k h1 h2 => ?_) ?_
      · by_cases hk' : k = i + j
        · rw [hk', stf_at, e1]; omega
        · rw [stf_ne _ _ hk']; exact hg k hk
      · rw [stf_ne _ _ (by omega)]; exact hz k h1 h2
      · rw [lv_stf (by omega), e1, e2, show lv (F b1) (j + 1) = lv (F b1) j + (F b1 j).toInt * (1073741824 : Int) ^ j from rfl, show (1073741824 : Int) ^ (i + (j + 1)) = (1073741824 : Int) ^ (i + j) * 1073741824 from Int.pow_succ _ _]
        have h3 : t % 1073741824 + 1073741824 * (t / 1073741824) = t := by omega
        have hpp : (1073741824 : Int) ^ (i + j) = (1073741824 : Int) ^ i * (1073741824 : Int) ^ j := Int.pow_add _ _ _
        rw [hpp] at hv ⊢
        generalize (1073741824 : Int) ^ i = A at *
        generalize (1073741824 : Int) ^ j = B at *
        have hv' : lv g 48 = V0 + (F b0 i).toInt * A * lv (F b1) j - c.toInt * (A * B) := by omega
        have h5 : t % 1073741824 = t - 1073741824 * (t / 1073741824) := by omega
        rw [hv', h5, ht]
        generalize (c.toInt + (g (i + j)).toInt + (F b0 i).toInt * (F b1 j).toInt) / 1073741824 = y
        grind
theorem prod_94 {g : Nat → Int32} {c : Int64} {l7 : Int32} (hi : i < 24) (h4 : 4 ≤ m) (hsm : ∀ I, shp tb0 (S, I, J, R, nn) m = (1, 48)) (hga : lg (F b0) 24) (hgb : lg (F b1) 24) (hg : lg g 48) (hc : 0 ≤ c.toInt) (hz : ∀ k, i + 24 ≤ k → k < 48 → g k = 0) (hv : lv g 48 + c.toInt * (1073741824 : Int) ^ (i + 24) = lv (F b0) i * lv (F b1) 24 + (F b0 i).toInt * (1073741824 : Int) ^ i * lv (F b1) 24)
    (hK : ∀ g', lg g' 48 → (∀ k, i + 1 + 24 ≤ k → k < 48 → g' k = 0) → lv g' 48 = lv (F b0) (i + 1) * lv (F b1) 24 → r_X7_product tb0 K KX 8 [some (vR (some b0)), some (vR (some b1)), some (vI fac), some (vR (some m)), some (vI (nI (i + 1))), some (vL c), none, some (vI l7)] [] (S, u1 F m g', J, R, nn) 1 48) : r_X7_product tb0 K KX 94 [some (vR (some b0)), some (vR (some b1)), some (vI fac), some (vR (some m)), some (vI (nI i)), some (vL c), none, some (vI l7)] [] (S, u1 F m g, J, R, nn) 1 48 := by
  have e24 : (24 : Int32) = nI 24 := by decide
  have ei : (nI (i + 24)).toNatClampNeg = i + 24 := nI_clamp (by omega)
  have hval : lv g 48 + c.toInt * (1073741824 : Int) ^ (i + 24) = lv (F b0) (i + 1) * lv (F b1) 24 := by
    rw [show lv (F b0) (i + 1) = lv (F b0) i + (F b0 i).toInt * (1073741824 : Int) ^ i from rfl, Int.add_mul]; exact hv
  have hc30 : c.toInt < 1073741824 := by
    have l0 := (lv_rng hg).1
    have la := lv_rng (f := F b0) (n := i + 1) (fun k hk => hga k (by omega))
    have lb := lv_rng hgb
    have hp := B_pos (i + 24)
    have x1 : lv (F b0) (i + 1) * lv (F b1) 24 < (1073741824 : Int) ^ (i + 1) * (1073741824 : Int) ^ 24 := Int.lt_of_le_of_lt (Int.mul_le_mul_of_nonneg_left (Int.le_of_lt lb.2) la.1) (Int.mul_lt_mul_of_pos_right la.2 (B_pos 24))
    have x2 : (1073741824 : Int) ^ (i + 1) * (1073741824 : Int) ^ 24 = 1073741824 * (1073741824 : Int) ^ (i + 24) := by
      rw [← Int.pow_add, show i + 1 + 24 = (i + 24) + 1 by omega, Int.pow_succ, Int.mul_comm]
    have x3 : c.toInt * (1073741824 : Int) ^ (i + 24) < 1073741824 * (1073741824 : Int) ^ (i + 24) := by omega
    exact Int.lt_of_mul_lt_mul_right x3 (Int.le_of_lt hp)
  have ec : (Int64.toInt32 c).toInt = c.toInt := n_l2i (by omega) (by omega)
  refine e_X7_product_94 (onS_in ?_)
  rw [hsm, e24, nI_pl (by omega), ei, nI_1]
  refine gd_in ⟨h4, rfl⟩ ⟨vp_in_nI (by omega) (by decide), ?_⟩
  show r_X7_product tb0 K KX 8 [some (vR (some b0)), some (vR (some b1)), some (vI fac), some (vR (some m)), some (vI (nI (i + 1))), some (vL c), none, some (vI l7)] [] (S, u2 (u1 F m g) m (i + 24) (Int64.toInt32 c), J, R, nn) 1 48
  rw [u2_u1]
  refine hK _ (fun k hk => ?_) (fun k h1 h2 => ?_) ?_
  · by_cases hk' : k = i + 24
    · rw [hk', stf_at, ec]; omega
    · rw [stf_ne _ _ hk']; exact hg k hk
  · rw [stf_ne _ _ (by omega)]; exact hz k (by omega) h2
  · rw [lv_stf (by omega), ec, hz (i + 24) (Nat.le_refl _) (by omega), ← hval]
    have e0 : (0 : Int32).toInt = 0 := by decide
    rw [e0, Int.sub_zero]
theorem prod_out (hm0 : m ≠ b0) (hm1 : m ≠ b1) (h4 : 4 ≤ m) (hsa : ∀ I, shp tb0 (S, I, J, R, nn) b0 = (1, 24)) (hsb : ∀ I, shp tb0 (S, I, J, R, nn) b1 = (1, 24)) (hsm : ∀ I, shp tb0 (S, I, J, R, nn) m = (1, 48)) (hga : lg (F b0) 24) (hgb : lg (F b1) 24) (hf : 0 ≤ fac.toInt) (hT : fac.toInt * (lv (F b0) 24 * lv (F b1) 24) < (1073741824 : Int) ^ 48)
    (hK : ∀ g', lg g' 48 → lv g' 48 = fac.toInt * (lv (F b0) 24 * lv (F b1) 24) → K (some (vR (some m))) (S, u1 F m g', J, R, nn)) :
    ∀ (r i : Nat) (g : Nat → Int32) (c : Int64) (l7 : Int32), i + r = 24 → lg g 48 → (∀ k, i + 24 ≤ k → k < 48 → g k = 0) → lv g 48 = lv (F b0) i * lv (F b1) 24 → r_X7_product tb0 K KX 8 [some (vR (some b0)), some (vR (some b1)), some (vI fac), some (vR (some m)), some (vI (nI i)), some (vL c), none, some (vI l7)] [] (S, u1 F m g, J, R, nn) 1 48
  | 0, i, g, c, l7, hi, hg, hz, hv => by
    obtain rfl : i = 24 := by omega
    have hfm : u1 F m g m = g := u1_at _ _ _
    have e48 : (48 : Int32) = nI 48 := by decide
    refine e_X7_product_8b ⟨fun _ => e_X7_product_110b ?_, fun w => absurd (by decide) w⟩
    rw [e48]
    refine s_multiply (F := u1 F m g) (a := m) (la := 48) h4 hsm ⟨by decide, by decide⟩ hf (by rw [hfm]; exact hg) (by rw [hfm, hv]; exact hT) (fun g' k1 k2 k3 => rV_in ?_)
    rw [hfm, hv] at k2
    rw [u1_1]
    exact hK g' k1 k2
  | r + 1, i, g, c, l7, hi, hg, hz, hv => by
    have e24 : (24 : Int32) = nI 24 := by decide
    have z0 : nI 0 = (0 : Int32) := by decide
    have e0 : (0 : Int64).toInt = 0 := by decide
    refine e_X7_product_8b ⟨fun h => ?_, fun _ => ?_⟩
    · rw [e24] at h
      exact absurd h (nI_ge (by omega) (by omega))
    · rw [hsa]
      refine gd_in (show (0 : Nat) < 1 ∧ (1 : Nat) < 6 from by decide) ⟨fun h => absurd h (nI_ge (show i < 24 by omega) (by omega)), fun _ => ?_⟩
      rw [← z0]
      refine prod_in (V0 := lv (F b0) i * lv (F b1) 24) (by omega) hm0 hm1 h4 hsa hsb hsm hga hgb (fun g' c' k1 k2 k3 k4 => prod_94 (by omega) h4 hsm hga hgb k1 k2 k3 k4 (fun g2 m1 m2 m3 => ?_)) 24 0 g 0 (by omega) hg ⟨by decide, by decide⟩ hz (by rw [hv, e0, lv]; omega)
      exact prod_out hm0 hm1 h4 hsa hsb hsm hga hgb hf hT hK r (i + 1) g2 _ _ (by omega) m1 m2 m3
theorem s_product (hN : 92 ≤ nn) (h0 : b0 < nn) (h1 : b1 < nn) (hsa : ∀ I J' R' n', shp tb0 (S, I, J', R', n') b0 = (1, 24)) (hsb : ∀ I J' R' n', shp tb0 (S, I, J', R', n') b1 = (1, 24)) (hga : lg (F b0) 24) (hgb : lg (F b1) 24) (hf : 0 ≤ fac.toInt) (hT : fac.toInt * (lv (F b0) 24 * lv (F b1) 24) < (1073741824 : Int) ^ 48)
    (hK : ∀ g', lg g' 48 → lv g' 48 = fac.toInt * (lv (F b0) 24 * lv (F b1) 24) → K (some (vR (some nn))) (u1 S nn (1, 48), u1 F nn g', u1 J nn (fun _ => 0), u1 R nn (fun _ => none), nn + 1)) : w_X7_product tb0 [vR (some b0), vR (some b1), vI fac] (S, F, J, R, nn) K KX := by
  have sA : ∀ {b : Nat}, b < nn → (∀ I J' R' n', shp tb0 (S, I, J', R', n') b = (1, 24)) → ∀ I, shp tb0 (u1 S nn (1, 48), I, u1 J nn (fun _ => 0), u1 R nn (fun _ => none), nn + 1) b = (1, 24) := fun {b} hb hs I => by
    have := hs I J R nn
    unfold shp at this ⊢
    show (match tb0 b with | some s => s | none => u1 S nn (1, 48) b) = _
    rw [u1_ne _ _ (by omega)]; exact this
  have sM : ∀ I, shp tb0 (u1 S nn (1, 48), I, u1 J nn (fun _ => 0), u1 R nn (fun _ => none), nn + 1) nn = (1, 48) := fun I => by
    rw [shp_hi hN]
    show u1 S nn (1, 48) nn = _
    rw [u1_at]
  have e0 : (0 : Int32).toInt = 0 := by decide
  have e0L : (0 : Int64).toInt = 0 := by decide
  have z0 : nI 0 = (0 : Int32) := by decide
  have hz0 : lg (fun _ => (0 : Int32)) 48 := fun i _ => by rw [e0]; decide
  have hv0 : lv (fun _ => (0 : Int32)) 48 = 0 := by
    rw [lv_zero (f := fun _ => (0 : Int32)) (n := 0) (m := 48) (Nat.zero_le _) (fun i _ _ => rfl)]; try rfl
  refine i_X7_product (gd_in (tb0_hi hN) (e_X7_product_8 ⟨fun w => absurd w (by decide), fun _ => ?_⟩))
  rw [show shp tb0 (alloc (S, F, J, R, nn) (1, 48)) b0 = (1, 24) from sA h0 hsa _]
  refine gd_in (show (0 : Nat) < 1 ∧ (1 : Nat) < 6 from by decide) ⟨fun w => absurd w (by decide), fun _ => ?_⟩
  have q := prod_in (S := u1 S nn (1, 48)) (F := F) (J := u1 J nn (fun _ => 0)) (R := u1 R nn (fun _ => none)) (nn := nn + 1) (fac := fac) (K := K) (KX := KX) (m := nn) (b0 := b0) (b1 := b1) (i := 0) (V0 := lv (F b0) 0 * lv (F b1) 24) (by decide) (by omega) (by omega) (by omega) (sA h0 hsa) (sA h1 hsb) sM hga hgb (fun g' c' k1 k2 k3 k4 => prod_94 (by decide) (by omega) sM hga hgb k1 k2 k3 k4 (fun g2 m1 m2 m3 => prod_out (by omega) (by omega) (by omega) (sA h0 hsa) (sA h1 hsb) sM hga hgb hf hT (fun g3 n1 n2 => hK g3 n1 n2) 23 1 g2 _ _ rfl m1 m2 m3)) 24 0 (fun _ => 0) 0 rfl hz0 ⟨by decide, by decide⟩ (fun _ _ _ => rfl) (by rw [hv0, e0L, lv, lv]; omega)
  rw [z0] at q
  exact q
end Prod
