/-! part, the call -/
section Ops
variable {L : Nat} {xs : Nat → Int32} {t n s h l : Nat} {X : AX} {K : Option AV → AX → Prop} {KX : String → AX → Prop}
variable {S : Nat → Nat × Nat} {I : Nat → Nat → Int32} {J : Nat → Nat → Int64} {R : Nat → Nat → Option Nat} {nn p : Nat} {a : Int32}
theorem pt_fin {T B M n N D A W : Int} (hB : 0 < B) (hD : 0 < D) (h0 : A + W * D = n * N) (h1 : N * B = (M * B + T) * D) : n * T / B = W + A / D - n * M := by
  have hdm := Int.mul_ediv_add_emod A D
  have r0 := Int.emod_nonneg A (show D ≠ 0 by omega)
  have r1 := Int.emod_lt_of_pos A hD
  generalize A / D = z at hdm ⊢
  generalize A % D = r at hdm r0 r1
  have key : (n * T - (W + z - n * M) * B) * D = r * B := by
    have e1 : n * (N * B) = n * ((M * B + T) * D) := by rw [h1]
    have e2 : n * (N * B) = (A + W * D) * B := by rw [h0]; grind
    have e3 : A = D * z + r := hdm.symm
    rw [e3] at e2
    grind
  have q1 : 0 * D ≤ (n * T - (W + z - n * M) * B) * D := by
    rw [key, Int.zero_mul]; exact Int.mul_nonneg r0 (by omega)
  have q2 : (n * T - (W + z - n * M) * B) * D < B * D := by
    rw [key, Int.mul_comm B D]; exact Int.mul_lt_mul_of_pos_right r1 hB
  have q3 := Int.le_of_mul_le_mul_right q1 hD
  have q4 := Int.lt_of_mul_lt_mul_right q2 (Int.le_of_lt hD)
  refine fl_eq hB (by omega) ?_
  rw [Int.add_mul, Int.one_mul]
  omega
/-- rows of parts while they are multiplied -/
def pInv (f0 G h : Nat → Int64) (n M : Int) (i : Nat) (l2 : Int64) : Prop := (∀ k, k < i → 0 ≤ (h k).toInt ∧ (h k).toInt < (G k).toInt) ∧ (∀ k, i ≤ k → h k = f0 k) ∧ ∃ W : Int, l2.toInt = W - n * M ∧ 0 ≤ W ∧ W ≤ 1000000 * (i : Int) ∧ fN' h G i + W * fD G i = n * fN' f0 G i
theorem p_step {f0 G h : Nat → Int64} {M : Int} {i p : Nat} {l2 : Int64} (hg : goodP f0 G p) (hi : i < p) (hp : p ≤ 80) (ha : 1 ≤ a.toInt ∧ a.toInt ≤ 1000000) (hM : 0 ≤ M ∧ M ≤ 80) (hv : pInv f0 G h a.toInt M i l2) : ¬ G i = 0 ∧ pInv f0 G (stf h i (h i * a.toInt64 - h i * a.toInt64 / G i * G i)) a.toInt M (i + 1) (l2 + h i * a.toInt64 / G i) := by
  obtain ⟨v1, v2, W, v3, v4, v5, v6⟩ := hv
  obtain ⟨g1, g2, g3⟩ := hg i hi
  have hi' : h i = f0 i := v2 i (Nat.le_refl _)
  have m := mulb g1 (show (f0 i).toInt ≤ 200000000 by omega) (show 0 ≤ a.toInt by omega) ha.2
  have em : (f0 i * a.toInt64).toInt = (f0 i).toInt * a.toInt := by rw [n_mulL] <;> rw [n_i2l] <;> omega
  have ed := n_divL (x := f0 i * a.toInt64) (y := G i) (by omega) (by omega)
  have er := n_remL (x := f0 i * a.toInt64) (y := G i) (by omega) (by omega)
  rw [em] at ed er
  have hG0 : 0 < (G i).toInt := by omega
  have d0 : 0 ≤ (f0 i).toInt * a.toInt / (G i).toInt := Int.ediv_nonneg m.1 (by omega)
  have d1 : (f0 i).toInt * a.toInt / (G i).toInt ≤ 1000000 := by
    have : (f0 i).toInt * a.toInt < (1000000 + 1) * (G i).toInt := by
      have x1 : (f0 i).toInt * a.toInt ≤ (f0 i).toInt * 1000000 := Int.mul_le_mul_of_nonneg_left ha.2 g1
      omega
    have := Int.ediv_lt_of_lt_mul hG0 this
    omega
  have hdm := Int.mul_ediv_add_emod ((f0 i).toInt * a.toInt) (G i).toInt
  have r0 := Int.emod_nonneg ((f0 i).toInt * a.toInt) (show (G i).toInt ≠ 0 by omega)
  have r1 := Int.emod_lt_of_pos ((f0 i).toInt * a.toInt) hG0
  have nM := mulb (show 0 ≤ a.toInt by omega) ha.2 hM.1 hM.2
  rw [hi']
  refine ⟨fun w => ?_, fun k hk => ?_, fun k hk => ?_, W + (f0 i).toInt * a.toInt / (G i).toInt, ?_, by omega, by omega, ?_⟩
  · rw [w] at hG0; exact absurd hG0 (by decide)
  · by_cases e : k = i
    · rw [e, stf_at, er]; exact ⟨r0, r1⟩
    · rw [stf_ne _ _ e]; exact v1 k (by omega)
  · rw [stf_ne _ _ (by omega)]; exact v2 k (by omega)
  · rw [n_addL] <;> rw [v3, ed] <;> omega
  · have c1 := (fN_cong (f := stf h i (f0 i * a.toInt64 - f0 i * a.toInt64 / G i * G i)) (g := G) (f' := h) (g' := G) (n := i) (fun k hk => ⟨stf_ne _ _ (by omega), rfl⟩)).1
    rw [fN', fD, fN', c1, stf_at, er]
    have e1 : (f0 i).toInt * a.toInt % (G i).toInt = (f0 i).toInt * a.toInt - (G i).toInt * ((f0 i).toInt * a.toInt / (G i).toInt) := by omega
    rw [e1]
    generalize (f0 i).toInt * a.toInt / (G i).toInt = y
    have : fN' h G i = a.toInt * fN' f0 G i - W * fD G i := by omega
    rw [this]
    grind
theorem m_ploop {f0 G : Nat → Int64} {M : Int} (hg : goodP f0 G p) (hp : p ≤ 80) (h59 : I 42 59 = nI p) (hG : J 88 = G) (ha : 1 ≤ a.toInt ∧ a.toInt ≤ 1000000) (hM : 0 ≤ M ∧ M ≤ 80) (hK : ∀ h l2 (l5 : Int64), pInv f0 G h a.toInt M p l2 → r_X12_part tb0 K KX 120 [some (vR (some 42)), some (vI a), some (vL l2), none, some (vI (nI p)), some (vL l5), none] [] (S, I, u1 J 87 h, R, nn) 0 0) : ∀ r i h l2 l5, i + r = p → pInv f0 G h a.toInt M i l2 → r_X12_part tb0 K KX 63 [some (vR (some 42)), some (vI a), some (vL l2), none, some (vI (nI i)), some (vL l5), none] [] (S, I, u1 J 87 h, R, nn) 0 0
  | 0, i, h, l2, l5, hi, hv => by
    obtain rfl : i = p := by omega
    refine e_X12_part_63b ⟨fun _ => hK h l2 l5 hv, fun w => absurd ?_ w⟩
    rw [show xI (S, I, u1 J 87 h, R, nn) 42 59 = nI i from h59]
    exact Int32.le_iff_toInt_le.mpr (Int.le_refl _)
  | r + 1, i, h, l2, l5, hi, hv => by
    have ei : (nI i).toNatClampNeg = i := nI_clamp (by omega)
    have vi : vp_in (nI i) 170 := vp_in_nI (by omega) (by decide)
    have j87 : xJ (S, I, u1 J 87 h, R, nn) 87 = h := by
      show u1 J 87 h 87 = h
      rw [u1_at]
    have j88 : xJ (S, I, u1 J 87 h, R, nn) 88 = G := by
      show u1 J 87 h 88 = G
      rw [u1_ne _ _ (by decide)]; exact hG
    obtain ⟨s1, s2⟩ := p_step hg (show i < p by omega) hp ha hM hv
    refine e_X12_part_63b ⟨fun w => ?_, fun _ => ?_⟩
    · rw [show xI (S, I, u1 J 87 h, R, nn) 42 59 = nI p from h59] at w
      have := Int32.le_iff_toInt_le.mp w
      rw [nI_toInt (by omega), nI_toInt (by omega)] at this
      omega
    · rw [ei, j87, j88, nI_1]
      refine ⟨vi, vi, s1, vi, s1, vi, ?_⟩
      have := m_ploop hg hp h59 hG ha hM hK r (i + 1) _ _ (h i * a.toInt64) (by omega) s2
      rw [← u2_u1] at this
      exact this
set_option maxHeartbeats 2000000 in
theorem m_part {M T B : Int} {F : Nat → Nat → Int32} {J0 : Nat → Nat → Int64} (ha : 1 ≤ a.toInt ∧ a.toInt ≤ 1000000) (hM : (F 72 0).toInt = M) (hM2 : bnd (F 72 0) 0 80) (hp : p ≤ 80) (h73 : F 73 0 = nI p) (hg : goodP (cOv 0 (S, F, J0, R, nn)) (cUn 0 (S, F, J0, R, nn)) p) (hB : 0 < B) (hT : 0 ≤ T) (hTB : T < B) (hN : fN' (cOv 0 (S, F, J0, R, nn)) (cUn 0 (S, F, J0, R, nn)) p * B = (M * B + T) * fD (cUn 0 (S, F, J0, R, nn)) p)
    (hK : ∀ (v : Int32) e w1 w2 w3 w4 w5, a.toInt * T / B = v.toInt → K (some (vI v)) (S, u2 (u2 (u2 F 42 0 0) 42 59 w5) 42 60 e, u1 (u1 (u1 (u1 J0 87 w1) 88 w2) 89 w3) 90 w4, R, nn)) : r_X12_part tb0 K KX 38 [some (vR (some 42)), some (vI a), none, none, none, none, none] [] (S, u2 F 42 0 0, J0, R, nn) 0 0 := by
  have z0 : nI 0 = (0 : Int32) := by decide
  have e0L : (0 : Int64).toInt = 0 := by decide
  unfold bnd at hM2
  have nM := mulb (show 0 ≤ a.toInt by omega) ha.2 (show 0 ≤ M by omega) (show M ≤ 80 by omega)
  have hl2 : ((-(a.toInt64)) * (F 72 0).toInt64).toInt = 0 - a.toInt * M := by
    have e1 : (-(a.toInt64)).toInt = -a.toInt := by
      rw [← Int64.zero_sub, n_subL] <;> rw [e0L, n_i2l] <;> omega
    have e2 : -a.toInt * M = -(a.toInt * M) := Int.neg_mul _ _
    rw [n_mulL] <;> rw [e1, n_i2l, hM, e2] <;> omega
  refine e_X12_part_38 ⟨by unfold vp_in; decide, ?_⟩
  have q := s_collect (S := S) (I := u2 (u2 F 42 0 0) 42 59 0) (J := J0) (R := R) (nn := nn) (c := 0) (p := p) (s0 := 0) (K := fun v2 X1 => rV v2 (r_X12_part tb0 K KX 63 [some (vR (some 42)), some (vI a), some (vL ((-(Int32.toInt64 a)) * (Int32.toInt64 (F 72 0)))), none, some (vI 0), none, none] [] X1 0 0)) (KX := KX) (by decide) h73 hp z0.symm (by omega) (fun g G k1 k2 => rV_in ?_)
  · rw [z0] at q
    exact q
  · rw [Nat.zero_add, u2_2]
    have k2' : ∀ k, k < p → cOv 0 (S, F, J0, R, nn) k = g k ∧ cUn 0 (S, F, J0, R, nn) k = G k := fun k hk => by
      have h1 := k2 k hk
      have e : 0 + k = k := Nat.zero_add k
      exact ⟨(h1.1.symm : J0 85 (80 * 0 + k) = g (0 + k)).trans (congrArg g e), (h1.2.symm : J0 86 (80 * 0 + k) = G (0 + k)).trans (congrArg G e)⟩
    have hg' : goodP g G p := goodP_cong k2' hg
    obtain ⟨n1, n2⟩ := fN_cong k2'
    rw [n1, n2] at hN
    have hD := fD_pos hg'
    have hfin : ∀ h l2, pInv g G h a.toInt M p l2 → w_X12_whole tb0 [vR (some 42), vI 0] (S, u2 (u2 F 42 0 0) 42 59 (nI p), u1 (u1 (u1 J0 87 g) 88 G) 87 h, R, nn) (fun v2 X1 => rI v2 fun y3 => K (some (vI (Int64.toInt32 (l2 + (Int32.toInt64 y3))))) X1) KX := by
      intro h l2 hv
      obtain ⟨v1, v2, W, v3, v4, v5, v6⟩ := hv
      have j87 : u1 (u1 (u1 J0 87 g) 88 G) 87 h 87 = h := u1_at _ _ _
      have j88 : u1 (u1 (u1 J0 87 g) 88 G) 87 h 88 = G := by rw [u1_ne _ _ (by decide), u1_at]
      have hgh : goodP h G p := fun k hk => ⟨(v1 k hk).1, (v1 k hk).2, (hg' k hk).2.2⟩
      refine s_whole (n := p) (by omega) rfl (by rw [j87, j88]; exact hgh) (fun q e w3 w4 e1 _ => rI_in ?_)
      rw [j87, j88] at e1
      have key := pt_fin hB hD v6 hN
      rw [e1] at key
      have b1 : 0 ≤ a.toInt * T / B := Int.ediv_nonneg (Int.mul_nonneg (by omega) hT) (by omega)
      have b2 : a.toInt * T / B ≤ 1000000 := by
        have x1 : a.toInt * T ≤ a.toInt * B := Int.mul_le_mul_of_nonneg_left (by omega) (by omega)
        have x2 : a.toInt * T < (a.toInt + 1) * B := by rw [Int.add_mul, Int.one_mul]; omega
        have := Int.ediv_lt_of_lt_mul hB x2
        omega
      have hq80 : q ≤ 80 := by
        have z1 := (fN_rng hgh).2.1
        have z2 := Int.mul_ediv_add_emod (fN' h G p) (fD G p)
        have z3 := Int.emod_nonneg (fN' h G p) (show fD G p ≠ 0 by omega)
        rw [e1] at z2
        have z4 : (q : Int) * fD G p ≤ (p : Int) * fD G p := by
          rw [Int.mul_comm (q : Int)]; omega
        have z5 := Int.le_of_mul_le_mul_right z4 hD
        omega
      have hs : (l2 + (nI q).toInt64).toInt = a.toInt * T / B := by
        rw [n_addL] <;> rw [v3, n_i2l, nI_toInt (by omega)] <;> omega
      have := hK (Int64.toInt32 (l2 + (nI q).toInt64)) e h G w3 w4 (nI p) (by rw [n_l2i] <;> rw [hs] <;> omega)
      rw [show u1 (u1 (u1 J0 87 g) 88 G) 87 h = u1 (u1 J0 87 h) 88 G by rw [u1_cm _ (by decide), u1_1, u1_cm _ (by decide)]]
      exact this
    have hinv : pInv g G g a.toInt M 0 ((-(a.toInt64)) * (F 72 0).toInt64) := ⟨fun k hk => absurd hk (Nat.not_lt_zero _), fun _ _ => rfl, 0, hl2, by decide, by decide, by
      show (0 : Int) + 0 * 1 = a.toInt * 0
      omega⟩
    rcases Nat.eq_zero_or_pos p with hp0 | hp0
    · subst hp0
      refine e_X12_part_63 ⟨fun _ => e_X12_part_120 ?_, fun w => absurd (show nI 0 ≤ (0 : Int32) by decide) w⟩
      have := hfin g _ hinv
      rw [show u1 (u1 (u1 J0 87 g) 88 G) 87 g = u1 (u1 J0 87 g) 88 G by rw [u1_cm _ (by decide), u1_1, u1_cm _ (by decide)]] at this
      exact this
    · obtain ⟨s1, s2⟩ := p_step hg' hp0 hp ha (show 0 ≤ M ∧ M ≤ 80 by omega) hinv
      have v0 : vp_in (0 : Int32) 170 := by unfold vp_in; decide
      have c0 : Int32.toNatClampNeg 0 = 0 := by decide
      have z1 : (0 : Int32) + 1 = nI 1 := by decide
      refine e_X12_part_63 ⟨fun w => ?_, fun _ => ?_⟩
      · have w' : nI p ≤ 0 := w
        have := Int32.le_iff_toInt_le.mp w'
        have e0 : (0 : Int32).toInt = 0 := by decide
        rw [nI_toInt (by omega), e0] at this
        omega
      · have j87 : xJ (S, u2 (u2 F 42 0 0) 42 59 (nI p), u1 (u1 J0 87 g) 88 G, R, nn) 87 = g := by
          show u1 (u1 J0 87 g) 88 G 87 = g
          rw [u1_ne _ _ (by decide), u1_at]
        have j88 : xJ (S, u2 (u2 F 42 0 0) 42 59 (nI p), u1 (u1 J0 87 g) 88 G, R, nn) 88 = G := by
          show u1 (u1 J0 87 g) 88 G 88 = G
          rw [u1_at]
        rw [c0, j87, j88, z1]
        refine ⟨v0, v0, s1, v0, s1, v0, ?_⟩
        have := m_ploop (S := S) (I := u2 (u2 F 42 0 0) 42 59 (nI p)) (J := u1 (u1 J0 87 g) 88 G) (R := R) (nn := nn) (K := K) (KX := KX) hg' hp rfl (u1_at _ _ _) ha (show 0 ≤ M ∧ M ≤ 80 by omega) (fun h l2 l5 hv => e_X12_part_120b (hfin h l2 hv)) (p - 1) 1 _ _ (g 0 * a.toInt64) (by omega) s2
        rw [← u2_u1, show u1 (u1 (u1 J0 87 g) 88 G) 87 g = u1 (u1 J0 87 g) 88 G by rw [u1_cm _ (by decide), u1_1, u1_cm _ (by decide)]] at this
        exact this
theorem rel_part (H : Rel L xs t n s h l X) {g : Nat → Int32} {e w5 : Int32} {w1 w2 w3 w4 : Nat → Int64} {v : Int64} : Rel L xs (t + 1) n s h l (xS X, u2 (u2 (u2 (u1 (xI X) 19 g) 42 0 0) 42 59 w5) 42 60 e, u1 (u1 (u1 (u1 (u2 (xJ X) 91 0 v) 87 w1) 88 w2) 89 w3) 90 w4, xR X, xN X) := by
  obtain ⟨hS, hW, hR, hT, hL, hE, hK, hH, hC, hG⟩ := H
  have hi := u2_hi (i := 42) (k := 60) (v := e) (by decide) (u2_hi (i := 42) (k := 59) (v := w5) (by decide) (u2_hi (i := 42) (k := 0) (v := 0) (by decide) (u1_hi (i := 19) (v := g) (by decide) (fun a (_ : 92 ≤ a) => (rfl : xI X a = xI X a)))))
  exact ⟨rlS_n hS rfl rfl rfl rfl rfl (Nat.le_refl _), hW, hR, rlT_fr hi rfl rfl rfl rfl (Nat.le_refl _) rfl rfl hT, hL, hE, hK, rlH_up hH, rlC_fr hi rfl rfl rfl rfl rfl rfl rfl rfl (Nat.le_refl _) rfl hC, rlG_up hG⟩
set_option maxHeartbeats 4000000 in
theorem op_part {a0 : Int32} (ht : t < 600) (H : Rel L xs t n s h l X) (hK : ∀ c X1, SamS X X1 → (∀ K2 KX2, (∀ b X4, FinI L xs t c b X4 → K2 (some (vI b)) X4) → w_X12_part tb0 [vR (some 42), vI a0] X1 K2 KX2) → K (some (vI c)) X1) : w_L_part tb0 [vR (some 4), vI a0, vR (some 91)] X K KX := by
  obtain ⟨hS, hW, hR, hT, hL, hE, hKk, hH, hC, hG⟩ := id H
  have hht := hH.2.2.1
  have hhx : (xI X 4 9).toInt = h := by rw [hH.1, nI_toInt (by omega)]
  have hhy : (xI X 42 7).toInt = h := by rw [hH.2.1, nI_toInt (by omega)]
  have e1 : (1 : Int32).toInt = 1 := by decide
  have e0 : (0 : Int32).toInt = 0 := by decide
  have eM : (1000000 : Int32).toInt = 1000000 := by decide
  by_cases hin : 0 < h ∧ 1 ≤ a0.toInt ∧ a0.toInt ≤ 1000000
  · obtain ⟨h0, ha1, ha2⟩ := hin
    obtain ⟨-, -, -, -, ⟨T, B, p1, p2, p, p3, p4, p5, p6, p7⟩, -⟩ := rlG_h hH hG h0
    have hTB : 0 ≤ T ∧ T < B := by
      obtain ⟨_, _, _, _, _, _, _, _, _, z1, z2, _⟩ := id p1
      exact ⟨z1, z2⟩
    have n9 : ¬ xI X 4 9 ≤ 0 := fun w => by
      have := Int32.le_iff_toInt_le.mp w
      omega
    have n7 : ¬ xI X 42 7 ≤ 0 := fun w => by
      have := Int32.le_iff_toInt_le.mp w
      omega
    refine i_L_part (i_X11_part ⟨fun w => absurd w n9, fun _ => e_X11_part_12 (s_demandSuch1 (rV_in (s_isFrom (fun _ _ => rI_in (s_demand1 (rV_in (s_timesCut (S := xS X) (F := xI X) (J := xJ X) (R := xR X) (nn := xN X) p1 (by omega) ha2 (fun g c hc => rI_in (rI_in ⟨by unfold vp_in; decide, e_L_part_18 (hK 0 _ (SamS.mk rfl rfl) (fun K2 KX2 hK2 => ?_))⟩)))))) (fun w => absurd ⟨by omega, by omega⟩ w))))⟩)
    refine i_X12_part (i_X12_was ⟨fun w => absurd w n7, fun _ => e_X12_was_13 (s_right1 (rI_in ⟨Or.inr rfl, rI_in ⟨fun w => absurd w (by decide), fun _ => ⟨fun w => ?_, fun _ => ⟨fun w => ?_, fun _ => e_X12_part_29 (s_right1 (rI_in ⟨fun _ => ?_, fun w => absurd w (by decide)⟩))⟩⟩⟩⟩))⟩)
    · have := Int32.lt_iff_toInt_lt.mp w
      omega
    · have := Int32.lt_iff_toInt_lt.mp w
      omega
    · refine m_part (F := u1 (xI X) 19 g) (J0 := u2 (xJ X) 91 0 c.toInt64) (M := (xI X 72 0).toInt) (T := T) (B := B) (p := p) ⟨ha1, ha2⟩ rfl p7 p3 p4 p5 (by omega) hTB.1 hTB.2 p6 (fun v e w1 w2 w3 w4 w5 hv => hK2 _ _ ⟨⟨n, s, h, l, rel_part H⟩, rfl, fun _ => ?_⟩)
      have : c = v := Int32.toInt_inj.mp (hc.symm.trans hv)
      rw [← this]; try rfl
  · clear e1 e0 eM
    have hb0 : True := trivial
    simp only [Int32.lt_iff_toInt_lt, Int32.le_iff_toInt_le, ← Int32.toInt_inj, u2_ap, reduceIte, Nat.reduceEqDiff, xI, xJ, xR, xS, xN, li_0, li_1, li_2, li_3, li_4, li_5, li_6, li_7, li_8, li_9, li_10, li_11, li_12, li_13, li_14, li_15, li_16, li_20, li_34, li_40, li_50, li_59, li_60, li_64, li_99, li_100, li_200, li_500, li_1439, li_1440, li_3840, li_4000, li_10000, li_60000, li_1000000, li_m1, li_min, ck_0, ck_1, ck_2, ck_3, ck_4] at hhx hhy hin
    repeat' (first
      | with_reducible refine i_L_part ?_
      | with_reducible refine e_L_part_18 ?_
      | with_reducible refine e_L_part_16 ?_
      | with_reducible refine e_L_part_13 ?_
      | with_reducible refine i_X11_part ?_
      | with_reducible refine e_X11_part_11 ?_
      | with_reducible refine e_X11_part_12 ?_
      | with_reducible refine i_X12_part ?_
      | with_reducible refine e_X12_part_36 ?_
      | with_reducible refine e_X12_part_28 ?_
      | with_reducible refine e_X12_part_29 ?_
      | with_reducible refine i_X12_was ?_
      | with_reducible refine e_X12_was_12 ?_
      | with_reducible refine e_X12_was_13 ?_
      | with_reducible refine s_right1 ?_
      | with_reducible refine s_right0 (by decide) ?_
      | with_reducible refine s_isFrom ?_ ?_
      | with_reducible refine s_demand1 ?_
      | with_reducible refine s_demand0 ?_
      | with_reducible refine s_demandSuch1 ?_
      | with_reducible refine s_demandSuch0 ?_
      | with_reducible refine s_demandState1 ?_
      | with_reducible refine s_demandState0 ?_
      | with_reducible refine s_demandPlace ?_ ?_
      | with_reducible refine s_refuse ?_ ?_
      | (with_reducible refine s_hired ?hb ?_ ?_; case hb => assumption)
      | with_reducible refine s_right1 ?_
      | with_reducible refine s_right0 (by decide) ?_
      | with_reducible refine s_thrown ?_
      | with_reducible refine rI_in ?_
      | with_reducible refine rV_in ?_
      | with_reducible refine rL_in ?_
      | with_reducible refine rR_in ?_
      | with_reducible refine ite_t rfl ?_
      | with_reducible refine ite_f (by decide) ?_
      | with_reducible refine gd_in (by decide) ?_
      | with_reducible refine or0_and ?_
      | with_reducible refine or1_and ?_
      | with_reducible refine br_t (by decide) ?_
      | with_reducible refine br_f (by decide) ?_
      | with_reducible refine br_t2 (by decide) ?_
      | with_reducible refine br_f2 (by decide) ?_
      | (with_reducible refine vin_and ?hv ?_; case hv => first | omega | (simp only [Int32.lt_iff_toInt_lt, Int32.le_iff_toInt_le, ← Int32.toInt_inj, u2_ap, reduceIte, Nat.reduceEqDiff, xI, xJ, xR, xS, xN, li_0, li_1, li_2, li_3, li_4, li_5, li_6, li_7, li_8, li_9, li_10, li_11, li_12, li_13, li_14, li_15, li_16, li_20, li_34, li_40, li_50, li_59, li_60, li_64, li_99, li_100, li_200, li_500, li_1439, li_1440, li_3840, li_4000, li_10000, li_60000, li_1000000, li_m1, li_min, ck_0, ck_1, ck_2, ck_3, ck_4] at * <;> omega))
      | (with_reducible refine ne_and ?hv ?_; case hv => decide)
      | (refine hK _ _ (SamS.mk rfl rfl) (fun K2 KX2 hK2 => ?_); try dsimp only [xI, xJ, xR, xS, xN])
      | (with_reducible refine hK2 _ _ ?_; try dsimp only [xI, xJ, xR, xS, xN])
      | exact fin_thr H (by assumption) _ (by decide)
      | exact finL_thr H (by assumption) _ (by decide)
      | exact finB_thr H (by assumption) (by decide)
      | ((with_reducible refine br_s (fun c => ?_) (fun c => ?_)) <;> (try simp only [Int32.lt_iff_toInt_lt, Int32.le_iff_toInt_le, ← Int32.toInt_inj, u2_ap, reduceIte, Nat.reduceEqDiff, xI, xJ, xR, xS, xN, li_0, li_1, li_2, li_3, li_4, li_5, li_6, li_7, li_8, li_9, li_10, li_11, li_12, li_13, li_14, li_15, li_16, li_20, li_34, li_40, li_50, li_59, li_60, li_64, li_99, li_100, li_200, li_500, li_1439, li_1440, li_3840, li_4000, li_10000, li_60000, li_1000000, li_m1, li_min, ck_0, ck_1, ck_2, ck_3, ck_4] at c) <;> (try (exfalso; omega)))
      | ((with_reducible refine br_s2 (fun c => ?_) (fun c => ?_)) <;> (try simp only [Int32.lt_iff_toInt_lt, Int32.le_iff_toInt_le, ← Int32.toInt_inj, u2_ap, reduceIte, Nat.reduceEqDiff, xI, xJ, xR, xS, xN, li_0, li_1, li_2, li_3, li_4, li_5, li_6, li_7, li_8, li_9, li_10, li_11, li_12, li_13, li_14, li_15, li_16, li_20, li_34, li_40, li_50, li_59, li_60, li_64, li_99, li_100, li_200, li_500, li_1439, li_1440, li_3840, li_4000, li_10000, li_60000, li_1000000, li_m1, li_min, ck_0, ck_1, ck_2, ck_3, ck_4] at c) <;> (try (exfalso; omega)))
      | ((with_reducible intro c); (try simp only [Int32.lt_iff_toInt_lt, Int32.le_iff_toInt_le, ← Int32.toInt_inj, u2_ap, reduceIte, Nat.reduceEqDiff, xI, xJ, xR, xS, xN, li_0, li_1, li_2, li_3, li_4, li_5, li_6, li_7, li_8, li_9, li_10, li_11, li_12, li_13, li_14, li_15, li_16, li_20, li_34, li_40, li_50, li_59, li_60, li_64, li_99, li_100, li_200, li_500, li_1439, li_1440, li_3840, li_4000, li_10000, li_60000, li_1000000, li_m1, li_min, ck_0, ck_1, ck_2, ck_3, ck_4] at c) <;> (try (exfalso; omega))))
end Ops
