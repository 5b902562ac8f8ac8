/-! part -/
section Ops
variable {L : Nat} {xs : Nat → Int32} {t n s h l : Nat} {X : AX} {K : Option AV → AX → Prop} {KX : String → AX → Prop}
variable {S : Nat → Nat × Nat} {F : Nat → Nat → Int32} {J : Nat → Nat → Int64} {R : Nat → Nat → Option Nat} {nn z : Nat} {T B : Int} {a : Int32} {g : Nat → Int32}
theorem n_shr32 (x : Int32) {b : Nat} (hb : b < 20) : (x >>> (nI b &&& 31)).toInt = x.toInt / 2 ^ b := by
  have hk : ∀ b, b < 20 → (nI b &&& 31).toBitVec.smod 32 = BitVec.ofNat 32 b := by decide
  show (Int32.shiftRight x (nI b &&& 31)).toBitVec.toInt = _
  unfold Int32.shiftRight
  rw [hk b hb]
  show (BitVec.sshiftRight x.toBitVec (BitVec.ofNat 32 b).toNat).toInt = _
  rw [BitVec.toInt_sshiftRight]
  have : (BitVec.ofNat 32 b).toNat = b := by rw [BitVec.toNat_ofNat]; omega
  rw [this, Int.shiftRight_eq_div_pow]
  rfl
theorem n_bit {x : Int32} (hx : 0 ≤ x.toInt) : (x &&& 1).toInt = x.toInt % 2 := by
  have e1 : (x &&& 1).toBitVec = x.toBitVec &&& BitVec.ofNat 32 (2 ^ 1 - 1) := rfl
  have e2 : (x.toBitVec &&& BitVec.ofNat 32 (2 ^ 1 - 1)).toNat = x.toBitVec.toNat % 2 ^ 1 := by
    rw [BitVec.toNat_and, BitVec.toNat_ofNat, Nat.mod_eq_of_lt (by decide), Nat.and_two_pow_sub_one_eq_mod]
  have e3 : (x &&& 1).toInt = ((x.toBitVec.toNat % 2 ^ 1 : Nat) : Int) := by
    show (x &&& 1).toBitVec.toInt = _
    rw [e1, BitVec.toInt_eq_toNat_of_lt (by rw [e2]; omega), e2]
  have e4 : x.toInt = (x.toBitVec.toNat : Int) := by
    have h : 0 ≤ x.toBitVec.toInt := hx
    have hl := x.toBitVec.isLt
    show x.toBitVec.toInt = _
    rw [BitVec.toInt_eq_toNat_cond] at h ⊢
    split at h
    · rename_i c
      rw [if_pos c]
    · omega
  rw [e3, e4]; omega
theorem nI_m1 {r : Nat} (h : 1 ≤ r) (h2 : r < 100) : nI r + (-1) = nI (r - 1) := by
  have e : (-1 : Int32).toInt = -1 := by decide
  have e1 : (nI r).toInt = r := nI_toInt (by omega)
  have e2 : (nI (r - 1)).toInt = (r - 1 : Nat) := nI_toInt (by omega)
  refine Int32.toInt_inj.mp ?_
  rw [n_add (by omega) (by omega), e1, e, e2]; omega
def PtZ (z : Nat) (F : Nat → Nat → Int32) (T B : Int) : Prop := 2 ≤ z ∧ z ≤ 24 ∧ F 16 3 = nI z ∧ lg (F 17) z ∧ lg (F 18) z ∧ lv (F 17) z = T ∧ lv (F 18) z = B ∧ 0 ≤ T ∧ T < B ∧ 4 * B < (1073741824 : Int) ^ z
theorem PtZ.of (P : Pt 16 (S, F, J, R, nn) T B) : ∃ z, PtZ z F T B := by
  obtain ⟨n, h1, h2, h3, h4, h5, h6, h7, h8, h9, h10, h11⟩ := P
  refine ⟨n, h1, h2, h3, fun i hi => h4 i (by omega), fun i hi => h5 i (by omega), h7, h8, h9, h10, ?_⟩
  have e : (1073741824 : Int) ^ n = 1073741824 ^ (n - 1) * 1073741824 := by
    rw [← Int.pow_succ]; congr 1; omega
  rw [e]; omega
/-- the rest is doubled, and the part is added by the bit -/
theorem cut_it {A : AX → Prop} {r : Nat} (P : PtZ z F T B) (hr : r < 20) (ha : 0 ≤ a.toInt) (hg : lg g z) (hg0 : 0 ≤ lv g z ∧ lv g z < B) (hA : ∀ g', lg g' z → lv g' z = 2 * lv g z + (a.toInt / 2 ^ r % 2) * T → A (S, u1 F 19 g', J, R, nn)) : w_X7_multiply tb0 [vR (some 19), vI (nI z), vI 2] (S, u1 F 19 g, J, R, nn) (fun v2 X1 => rV v2 ((¬ ((a >>> (nI r &&& 31)) &&& 1) = (1 : Int32) → A X1) ∧ (((a >>> (nI r &&& 31)) &&& 1) = (1 : Int32) → w_X7_addTimes tb0 [vR (some 19), vR (some 17), vI (xI X1 16 3), vI 1] X1 (fun v4 X3 => rV v4 (A X3)) KX))) KX := by
  obtain ⟨h1, h2, h3, h4, h5, h6, h7, h8, h9, h10⟩ := P
  have e2 : (2 : Int32).toInt = 2 := by decide
  have e1 : (1 : Int32).toInt = 1 := by decide
  have hs := n_shr32 a hr
  have hq : 0 ≤ a.toInt / 2 ^ r := Int.ediv_nonneg ha (Int.le_of_lt (Int.pow_pos (by decide)))
  have hb := n_bit (x := a >>> (nI r &&& 31)) (by omega)
  rw [hs] at hb
  generalize a.toInt / 2 ^ r = Q at hb hq hA
  have g19 : u1 F 19 g 19 = g := u1_at _ _ _
  refine s_multiply (F := u1 F 19 g) (la := 24) (by decide) (fun I => rfl) ⟨h2, by decide⟩ (by decide) (by rw [g19]; exact hg) (by rw [g19, e2]; omega) (fun g1 k1 k2 k3 => rV_in ⟨fun w => ?_, fun w => ?_⟩)
  · rw [u1_1]
    rw [g19, e2] at k2
    refine hA g1 k1 ?_
    have : ¬ Q % 2 = 1 := fun y => w (Int32.toInt_inj.mp (by rw [hb, e1]; exact y))
    have : Q % 2 = 0 := by omega
    rw [this, k2]; omega
  · rw [u1_1]
    rw [g19, e2] at k2
    have w1 : Q % 2 = 1 := by rw [← hb, w, e1]
    have g19' : u1 F 19 g1 19 = g1 := u1_at _ _ _
    have g17 : u1 F 19 g1 17 = F 17 := u1_ne _ _ (by decide)
    rw [show xI (S, u1 F 19 g1, J, R, nn) 16 3 = nI z from h3]
    refine s_addTimes (F := u1 F 19 g1) (la := 24) (lb := 24) (by decide) (by decide) (fun I => rfl) (fun I => rfl) ⟨h2, by decide⟩ ⟨h2, by decide⟩ (by rw [g19']; exact k1) (by rw [g17]; exact h4) (by rw [g19', g17, k2, h6, e1]; omega) (fun g2 m1 m2 m3 => rV_in ?_)
    rw [u1_1]
    rw [g19', g17, k2, h6, e1] at m2
    refine hA g2 m1 ?_
    rw [w1, m2]
/-- wholes are taken out -/
theorem cut_60 {l4 : Int32} (P : PtZ z F T B) : ∀ (r k : Nat) (g : Nat → Int32) (c : Int32), k + r = 2 → lg g z → 0 ≤ lv g z → lv g z < ((r : Int) + 1) * B → 0 ≤ c.toInt → c.toInt + r < 2000000000 → (∀ g' (c' : Int32) (l5 : Int32), lg g' z → 0 ≤ lv g' z → lv g' z < B → c'.toInt * B + lv g' z = c.toInt * B + lv g z → c.toInt ≤ c'.toInt → r_X7_timesCut tb0 K KX 102 [some (vR (some 16)), some (vI a), some (vR (some 19)), some (vI c'), some (vI l4), some (vI l5)] [] (S, u1 F 19 g', J, R, nn) 0 0) → r_X7_timesCut tb0 K KX 60 [some (vR (some 16)), some (vI a), some (vR (some 19)), some (vI c), some (vI l4), some (vI (nI k))] [] (S, u1 F 19 g, J, R, nn) 0 0
  | 0, k, g, c, hk, hg, h0, hB, hc, hc2, hK => by
    obtain rfl : k = 2 := by omega
    refine e_X7_timesCut_60_m16 ⟨fun _ => hK g c _ hg h0 (by omega) rfl (Int.le_refl _), fun w => absurd ?_ w⟩
    decide
  | r + 1, k, g, c, hk, hg, h0, hB, hc, hc2, hK => by
    obtain ⟨h1, h2, h3, h4, h5, h6, h7, h8, h9, h10⟩ := id P
    have g19 : u1 F 19 g 19 = g := u1_at _ _ _
    have g18 : u1 F 19 g 18 = F 18 := u1_ne _ _ (by decide)
    have e1 : (1 : Int32).toInt = 1 := by decide
    have em : (-1 : Int32).toInt = -1 := by decide
    have e0 : (0 : Int32).toInt = 0 := by decide
    have hr2 : r + 1 ≤ 2 := by omega
    have hb3 : ((r + 1 : Nat) : Int) + 1 ≤ 3 := by omega
    have hb4 : (((r + 1 : Nat) : Int) + 1) * B ≤ 3 * B := Int.mul_le_mul_of_nonneg_right hb3 (by omega)
    have hexp : (((r + 1 : Nat) : Int) + 1) * B = ((r : Int) + 1) * B + B := by
      have : ((r + 1 : Nat) : Int) + 1 = ((r : Int) + 1) + 1 := by omega
      rw [this, Int.add_mul, Int.one_mul]
    refine e_X7_timesCut_60_m16 ⟨fun w => ?_, fun _ => ?_⟩
    · have := Int32.le_iff_toInt_le.mp w
      have e2 : (2 : Int32).toInt = 2 := by decide
      rw [e2, nI_toInt (by omega)] at this
      omega
    · rw [show xI (S, u1 F 19 g, J, R, nn) 16 3 = nI z from h3]
      refine s_compare (F := u1 F 19 g) (la := 24) (lb := 24) (fun I => rfl) (fun I => rfl) ⟨h2, by decide⟩ ⟨h2, by decide⟩ (by rw [g19]; exact hg) (by rw [g18]; exact h5) (fun y hy => rI_in ⟨fun w => ?_, fun w => ?_⟩)
      · rw [g19, g18, h7] at hy
        refine hK g c _ hg h0 ?_ rfl (Int.le_refl _)
        rcases hy with ⟨-, y2⟩ | ⟨y1, -⟩ | ⟨y1, -⟩
        · exact y2
        · rw [y1] at w; exact absurd w (by decide)
        · rw [y1] at w; exact absurd w (by decide)
      · rw [g19, g18, h7] at hy
        have hge : B ≤ lv g z := by
          rcases hy with ⟨y1, -⟩ | ⟨-, y2⟩ | ⟨-, y2⟩
          · rw [y1] at w; exact absurd (by decide) w
          · omega
          · omega
        rw [show xI (S, u1 F 19 g, J, R, nn) 16 3 = nI z from h3]
        refine i_X7_subtract (s_addTimes (F := u1 F 19 g) (la := 24) (lb := 24) (by decide) (by decide) (fun I => rfl) (fun I => rfl) ⟨h2, by decide⟩ ⟨h2, by decide⟩ (by rw [g19]; exact hg) (by rw [g18]; exact h5) (by rw [g19, g18, h7, em]; omega) (fun g2 m1 m2 m3 => rV_in (rV_in ?_)))
        rw [u1_1, nI_1]
        rw [g19, g18, h7, em] at m2
        have c1 : (c + 1).toInt = c.toInt + 1 := by rw [n_add] <;> rw [e1] <;> omega
        refine cut_60 P r (k + 1) g2 (c + 1) (by omega) m1 (by omega) (by omega) (by omega) (by omega) (fun g' c' l5 k1 k2 k3 k4 k5 => hK g' c' l5 k1 k2 k3 ?_ (by omega))
        rw [k4, c1, m2, Int.add_mul, Int.one_mul]; omega
theorem cut_next {r : Nat} {g g' : Nat → Int32} {c : Int32} (P : PtZ z F T B) (ha : 0 ≤ a.toInt) (ha2 : a.toInt ≤ 1000000) (hr : r < 20) (hg : lg g z) (h0 : 0 ≤ lv g z) (hB : lv g z < B) (hc : 0 ≤ c.toInt) (he : c.toInt * B + lv g z = (a.toInt / 2 ^ (r + 1)) * T) (k1 : lg g' z) (k2 : lv g' z = 2 * lv g z + (a.toInt / 2 ^ r % 2) * T) (hK : ∀ g2 (c2 l5 : Int32), lg g2 z → 0 ≤ lv g2 z → lv g2 z < B → 0 ≤ c2.toInt → c2.toInt * B + lv g2 z = (a.toInt / 2 ^ r) * T → r_X7_timesCut tb0 K KX 102 [some (vR (some 16)), some (vI a), some (vR (some 19)), some (vI c2), some (vI (nI r)), some (vI l5)] [] (S, u1 F 19 g2, J, R, nn) 0 0) : r_X7_timesCut tb0 K KX 60 [some (vR (some 16)), some (vI a), some (vR (some 19)), some (vI (c * 2)), some (vI (nI r)), some (vI 0)] [] (S, u1 F 19 g', J, R, nn) 0 0 := by
  have z0 : nI 0 = (0 : Int32) := by decide
  have e2 : (2 : Int32).toInt = 2 := by decide
  have hBp : 0 < B := by omega
  have hT := P.2.2.2.2.2.2.2.1
  have hTB := P.2.2.2.2.2.2.2.2.1
  have hp : (0 : Int) < 2 ^ r := Int.pow_pos (by decide)
  have hQ : a.toInt / 2 ^ (r + 1) = a.toInt / 2 ^ r / 2 := by
    rw [Int.pow_succ, Int.ediv_ediv_of_nonneg (Int.le_of_lt hp)]
  have hq0 : 0 ≤ a.toInt / 2 ^ r := Int.ediv_nonneg ha (Int.le_of_lt hp)
  have hq1 : a.toInt / 2 ^ r ≤ 1000000 := Int.le_trans (Int.ediv_le_self _ ha) ha2
  rw [hQ] at he
  generalize a.toInt / 2 ^ r = Q at he k2 hq0 hq1 hK
  have hb01 : Q % 2 = 0 ∨ Q % 2 = 1 := by omega
  have hdm : Q = 2 * (Q / 2) + Q % 2 := by omega
  have cB : c.toInt ≤ 1000000 := by
    have h1 : c.toInt * B ≤ Q / 2 * B := by
      have h2 : Q / 2 * T ≤ Q / 2 * B := Int.mul_le_mul_of_nonneg_left (by omega) (by omega)
      omega
    have := Int.le_of_mul_le_mul_right h1 hBp
    omega
  have bT : 0 ≤ Q % 2 * T ∧ Q % 2 * T < B := by
    rcases hb01 with e | e <;> rw [e] <;> omega
  have c2 : (c * 2).toInt = 2 * c.toInt := by rw [n_mul] <;> rw [e2] <;> omega
  rw [← z0]
  refine cut_60 P 2 0 g' (c * 2) rfl k1 (by omega) (by
    have : ((2 : Nat) : Int) + 1 = 3 := rfl
    rw [this]; omega) (by omega) (by omega) (fun g2 c3 l5 m1 m2 m3 m4 m5 => hK g2 c3 l5 m1 m2 m3 (by omega) ?_)
  rw [m4, c2, k2]
  have a1 : 2 * c.toInt * B = 2 * (c.toInt * B) := by rw [Int.mul_assoc]
  have a2 : Q * T = 2 * (Q / 2 * T) + Q % 2 * T := by
    have : Q * T = (2 * (Q / 2) + Q % 2) * T := by rw [← hdm]
    rw [this, Int.add_mul, Int.mul_assoc]
  rw [a1, a2, ← he]; omega
/-- the loop over the bits -/
theorem cut_loop (P : PtZ z F T B) (ha : 0 ≤ a.toInt) (ha2 : a.toInt ≤ 1000000) (hK : ∀ g' (c' : Int32), 0 ≤ c'.toInt → a.toInt * T / B = c'.toInt → K (some (vI c')) (S, u1 F 19 g', J, R, nn)) : ∀ (r : Nat), r ≤ 19 → ∀ (g : Nat → Int32) (c l5 : Int32), lg g z → 0 ≤ lv g z → lv g z < B → 0 ≤ c.toInt → c.toInt * B + lv g z = (a.toInt / 2 ^ r) * T → r_X7_timesCut tb0 K KX 16 [some (vR (some 16)), some (vI a), some (vR (some 19)), some (vI c), some (vI (nI r + (-1))), some (vI l5)] [] (S, u1 F 19 g, J, R, nn) 0 0
  | 0, _, g, c, l5, hg, h0, hB, hc, he => by
    have hBp : 0 < B := by omega
    refine e_X7_timesCut_16_m16b ⟨fun _ => e_X7_timesCut_108_m16b (hK g c hc ?_), fun w => absurd (by decide) w⟩
    rw [Int.pow_zero, Int.ediv_one] at he
    refine fl_eq hBp (by omega) ?_
    rw [Int.add_mul, Int.one_mul]; omega
  | r + 1, hr, g, c, l5, hg, h0, hB, hc, he => by
    have h3 := P.2.2.1
    have hBp : 0 < B := by omega
    have hT := P.2.2.2.2.2.2.2.1
    have hTB := P.2.2.2.2.2.2.2.2.1
    refine e_X7_timesCut_16_m16b ⟨fun w => ?_, fun _ => ?_⟩
    · rw [nI_m1 (by omega) (by omega)] at w
      have := Int32.lt_iff_toInt_lt.mp w
      have e0 : (0 : Int32).toInt = 0 := by decide
      rw [nI_toInt (by omega), e0] at this
      omega
    · rw [nI_m1 (by omega) (by omega), show r + 1 - 1 = r from rfl, show xI (S, u1 F 19 g, J, R, nn) 16 3 = nI z from h3]
      refine cut_it P (by omega) ha hg ⟨h0, hB⟩ (fun g' k1 k2 => e_X7_timesCut_57_m16b ?_)
      exact cut_next P ha ha2 (by omega) hg h0 hB hc he k1 k2 (fun g2 c2 l5 m1 m2 m3 m4 m5 => e_X7_timesCut_102_m16 (cut_loop P ha ha2 hK r (by omega) g2 c2 l5 m1 m2 m3 m4 m5))
theorem s_timesCut (P : Pt 16 (S, F, J, R, nn) T B) (ha : 0 ≤ a.toInt) (ha2 : a.toInt ≤ 1000000) (hK : ∀ g' (c' : Int32), a.toInt * T / B = c'.toInt → K (some (vI c')) (S, u1 F 19 g', J, R, nn)) : w_X7_timesCut tb0 [vR (some 16), vI a] (S, F, J, R, nn) K KX := by
  obtain ⟨z, PZ⟩ := PtZ.of P
  have h2 := PZ.2.1
  have h3 := PZ.2.2.1
  have hT := PZ.2.2.2.2.2.2.2.1
  have hTB := PZ.2.2.2.2.2.2.2.2.1
  have e0 : (0 : Int32).toInt = 0 := by decide
  refine i_X7_timesCut_m16 (s_fill24 (b := 19) (by decide) (fun I' => rfl) (fun g hg => rV_in ?_))
  have hgl : lg g z := fun i hi => by
    rw [hg i (by omega), e0]; decide
  have hgv : lv g z = 0 := by
    rw [lv_zero (f := g) (n := 0) (m := z) (Nat.zero_le _) (fun i _ hi => hg i (by omega))]; try rfl
  have z19 : (19 : Int32) = nI 19 := by decide
  refine e_X7_timesCut_16_m16 ⟨fun w => absurd w (by decide), fun _ => ?_⟩
  rw [show xI (S, u1 F 19 g, J, R, nn) 16 3 = nI z from h3, z19]
  refine cut_it PZ (by decide) ha hgl (by rw [hgv]; omega) (fun g' k1 k2 => e_X7_timesCut_57_m16 ?_)
  have he : (0 : Int32).toInt * B + lv g z = (a.toInt / 2 ^ (19 + 1)) * T := by
    rw [hgv, e0, Int.zero_mul, show (2 : Int) ^ (19 + 1) = 1048576 by decide, show a.toInt / 1048576 = 0 by omega, Int.zero_mul]; try rfl
  exact cut_next PZ ha ha2 (by decide) hgl (by rw [hgv]; decide) (by rw [hgv]; omega) (by decide) he k1 k2 (fun g2 c2 l5 m1 m2 m3 m4 m5 => e_X7_timesCut_102_m16 (cut_loop PZ ha ha2 (fun g' c' _ w => hK g' c' w) 19 (by decide) g2 c2 l5 m1 m2 m3 m4 m5))
end Ops
