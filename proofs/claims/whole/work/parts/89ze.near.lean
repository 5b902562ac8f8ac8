/-! nearness by the class -/
section Near
variable {S : Nat → Nat × Nat} {F : Nat → Nat → Int32} {J : Nat → Nat → Int64} {R : Nat → Nat → Option Nat} {nn : Nat} {K : Option AV → AX → Prop} {KX : String → AX → Prop} {T B T' B' : Int} {w w2 a b : Int32}
/-- cells that stood before stand as they were -/
def FrN (X X' : AX) : Prop := xN X ≤ xN X' ∧ ∀ i, i < xN X → xS X' i = xS X i ∧ xI X' i = xI X i ∧ xJ X' i = xJ X i ∧ xR X' i = xR X i
theorem FrN.new {s : Nat × Nat} {g : Nat → Int32} {j : Nat → Int64} {r : Nat → Option Nat} : FrN (S, F, J, R, nn) (u1 S nn s, u1 F nn g, u1 J nn j, u1 R nn r, nn + 1) := ⟨Nat.le_succ _, fun i hi => by
  have hi' : i < nn := hi
  exact ⟨u1_ne _ _ (by omega), u1_ne _ _ (by omega), u1_ne _ _ (by omega), u1_ne _ _ (by omega)⟩⟩
theorem FrN.trans {X Y Z : AX} (h1 : FrN X Y) (h2 : FrN Y Z) : FrN X Z := ⟨Nat.le_trans h1.1 h2.1, fun i hi => by
  obtain ⟨a1, a2, a3, a4⟩ := h1.2 i hi
  obtain ⟨b1, b2, b3, b4⟩ := h2.2 i (Nat.lt_of_lt_of_le hi h1.1)
  exact ⟨b1.trans a1, b2.trans a2, b3.trans a3, b4.trans a4⟩⟩
/-- a part over all its limbs -/
theorem Pt_24 {p : Nat} {X : AX} (P : Pt p X T B) : lg (xI X (p + 1)) 24 ∧ lg (xI X (p + 2)) 24 ∧ lv (xI X (p + 1)) 24 = T ∧ lv (xI X (p + 2)) 24 = B ∧ 0 ≤ T ∧ T < B := by
  obtain ⟨n, h1, h2, h3, h4, h5, h6, h7, h8, h9, h10, h11⟩ := P
  refine ⟨h4, h5, ?_, ?_, h9, h10⟩
  · rw [lv_zero (n := n) (m := 24) h2 (fun i q1 q2 => (h6 i q1 q2).1)]; exact h7
  · rw [lv_zero (n := n) (m := 24) h2 (fun i q1 q2 => (h6 i q1 q2).2)]; exact h8
theorem s_totalTop_16 (hN : 92 ≤ nn) (hg1 : lg (F 17) 24) (hg2 : lg (F 18) 24) (hT : lv (F 17) 24 = T) (hB : lv (F 18) 24 = B) (hw : 0 ≤ T + w.toInt * B ∧ T + w.toInt * B < (1073741824 : Int) ^ 24) (hK : ∀ g, lg g 24 → lv g 24 = T + w.toInt * B → K (some (vR (some nn))) (u1 S nn (1, 24), u1 F nn g, u1 J nn (fun _ => 0), u1 R nn (fun _ => none), nn + 1)) : w_X7_totalTop tb0 [vR (some 16), vI w] (S, F, J, R, nn) K KX := by
  have sM : ∀ I, shp tb0 (u1 S nn (1, 24), I, u1 J nn (fun _ => 0), u1 R nn (fun _ => none), nn + 1) nn = (1, 24) := fun I => by
    rw [shp_hi hN]
    show u1 S nn (1, 24) nn = _
    rw [u1_at]
  have e24 : (24 : Int32) = nI 24 := by decide
  have r1 : u1 F nn (F 17) nn = F 17 := u1_at _ _ _
  have r2 : u1 F nn (F 17) 18 = F 18 := u1_ne _ _ (by omega)
  refine i_X7_totalTop_m16 (gd_in (tb0_hi hN) (gd_in ⟨by show 4 ≤ nn; omega, by show (shp tb0 (u1 S nn (1, 24), _, u1 J nn (fun _ => 0), u1 R nn (fun _ => none), nn + 1) nn).1 = 1; rw [sM]⟩ ?_))
  rw [e24]
  refine s_addTimes (S := u1 S nn (1, 24)) (F := u1 F nn (F 17)) (J := u1 J nn (fun _ => 0)) (R := u1 R nn (fun _ => none)) (nn := nn + 1) (a := nn) (b := 18) (la := 24) (lb := 24) (by omega) (by omega) sM (fun I => rfl) ⟨by decide, by decide⟩ ⟨by decide, by decide⟩ (by rw [r1]; exact hg1) (by rw [r2]; exact hg2) (by rw [r1, r2, hT, hB]; exact hw) (fun g k1 k2 k3 => rV_in ?_)
  rw [r1, r2, hT, hB] at k2
  rw [u1_1]
  exact hK g k1 k2
theorem s_totalTop_38 (hN : 92 ≤ nn) (hg1 : lg (F 39) 24) (hg2 : lg (F 40) 24) (hT : lv (F 39) 24 = T) (hB : lv (F 40) 24 = B) (hw : 0 ≤ T + w.toInt * B ∧ T + w.toInt * B < (1073741824 : Int) ^ 24) (hK : ∀ g, lg g 24 → lv g 24 = T + w.toInt * B → K (some (vR (some nn))) (u1 S nn (1, 24), u1 F nn g, u1 J nn (fun _ => 0), u1 R nn (fun _ => none), nn + 1)) : w_X7_totalTop tb0 [vR (some 38), vI w] (S, F, J, R, nn) K KX := by
  have sM : ∀ I, shp tb0 (u1 S nn (1, 24), I, u1 J nn (fun _ => 0), u1 R nn (fun _ => none), nn + 1) nn = (1, 24) := fun I => by
    rw [shp_hi hN]
    show u1 S nn (1, 24) nn = _
    rw [u1_at]
  have e24 : (24 : Int32) = nI 24 := by decide
  have r1 : u1 F nn (F 39) nn = F 39 := u1_at _ _ _
  have r2 : u1 F nn (F 39) 40 = F 40 := u1_ne _ _ (by omega)
  refine i_X7_totalTop_m38 (gd_in (tb0_hi hN) (gd_in ⟨by show 4 ≤ nn; omega, by show (shp tb0 (u1 S nn (1, 24), _, u1 J nn (fun _ => 0), u1 R nn (fun _ => none), nn + 1) nn).1 = 1; rw [sM]⟩ ?_))
  rw [e24]
  refine s_addTimes (S := u1 S nn (1, 24)) (F := u1 F nn (F 39)) (J := u1 J nn (fun _ => 0)) (R := u1 R nn (fun _ => none)) (nn := nn + 1) (a := nn) (b := 40) (la := 24) (lb := 24) (by omega) (by omega) sM (fun I => rfl) ⟨by decide, by decide⟩ ⟨by decide, by decide⟩ (by rw [r1]; exact hg1) (by rw [r2]; exact hg2) (by rw [r1, r2, hT, hB]; exact hw) (fun g k1 k2 k3 => rV_in ?_)
  rw [r1, r2, hT, hB] at k2
  rw [u1_1]
  exact hK g k1 k2
set_option maxHeartbeats 1000000 in
/-- the last comparisons -/
theorem near_end {i1 i2 i3 : Nat} {M1 M2 M3 : Int} (h4 : 4 ≤ i1 ∧ 4 ≤ i2) (hne : i1 ≠ i2 ∧ i1 ≠ i3 ∧ i2 ≠ i3) (hs1 : ∀ I, shp tb0 (S, I, J, R, nn) i1 = (1, 48)) (hs2 : ∀ I, shp tb0 (S, I, J, R, nn) i2 = (1, 48)) (hs3 : ∀ I, shp tb0 (S, I, J, R, nn) i3 = (1, 48)) (g1 : lg (F i1) 48) (g2 : lg (F i2) 48) (g3 : lg (F i3) 48) (v1 : lv (F i1) 48 = M1) (v2 : lv (F i2) 48 = M2) (v3 : lv (F i3) 48 = M3)
    (hK : ∀ i g (y : Int32), (i = i1 ∨ i = i2) → ((y = 1 ∧ M1 - M2 ≤ M3 ∧ M2 - M1 ≤ M3) ∨ (y = 0 ∧ (M3 < M1 - M2 ∨ M3 < M2 - M1))) → K (some (vI y)) (S, u1 F i g, J, R, nn)) : w_X7_compare tb0 [vR (some i1), vR (some i2), vI 48] (S, F, J, R, nn) (fun v17 X16 => rI v17 fun y18 => (y18 < (0 : Int32) → r_X7_isNear tb0 K KX 66 [some (vR (some 16)), some (vI w), some (vR (some 38)), some (vI w2), some (vI a), some (vI b), some (vR (some i1)), some (vR (some i2)), some (vR (some i3)), none, none] [] X16 5 192) ∧ (¬ y18 < (0 : Int32) → r_X7_isNear tb0 K KX 67 [some (vR (some 16)), some (vI w), some (vR (some 38)), some (vI w2), some (vI a), some (vI b), some (vR (some i1)), some (vR (some i2)), some (vR (some i3)), none, none] [vI 1] X16 5 192)) KX := by
  have e48 : (48 : Int32) = nI 48 := by decide
  have em : (-1 : Int32).toInt = -1 := by decide
  have l1 := lv_rng g1
  have l2 := lv_rng g2
  have l3 := lv_rng g3
  rw [v1] at l1
  rw [v2] at l2
  rw [v3] at l3
  rw [e48]
  refine s_compare (la := 48) (lb := 48) hs1 hs2 ⟨by decide, by decide⟩ ⟨by decide, by decide⟩ g1 g2 (fun r hr => rI_in ⟨fun z => ?_, fun z => ?_⟩)
  · rw [v1, v2] at hr
    have hlt : M1 < M2 := by
      rcases hr with ⟨-, y⟩ | ⟨y, -⟩ | ⟨y, -⟩
      · exact y
      · rw [y] at z; exact absurd z (by decide)
      · rw [y] at z; exact absurd z (by decide)
    refine e_X7_isNear_66_m16 (e_X7_isNear_67_m16 ⟨fun _ => e_X7_isNear_79_m16 (e_X7_isNear_81_m16 ⟨fun _ => e_X7_isNear_95_m16 (e_X7_isNear_97_m16 ?_), fun y => absurd rfl y⟩), fun y => absurd rfl y⟩)
    rw [e48]
    refine i_X7_subtract (s_addTimes (a := i2) (b := i1) (la := 48) (lb := 48) (fun y => hne.1 y.symm) h4.2 hs2 hs1 ⟨by decide, by decide⟩ ⟨by decide, by decide⟩ g2 g1 (by rw [v1, v2, em]; omega) (fun g k1 k2 k3 => rV_in (rV_in ?_)))
    rw [v1, v2, em] at k2
    have r2 : u1 F i2 g i2 = g := u1_at _ _ _
    have r3 : u1 F i2 g i3 = F i3 := u1_ne _ _ (fun y => hne.2.2 y.symm)
    refine s_compare (F := u1 F i2 g) (la := 48) (lb := 48) hs2 hs3 ⟨by decide, by decide⟩ ⟨by decide, by decide⟩ (by rw [r2]; exact k1) (by rw [r3]; exact g3) (fun r hr => rI_in ?_)
    rw [r2, r3, v3, k2] at hr
    refine ⟨fun y => e_X7_isNear_118_m16 (e_X7_isNear_119_m16 ⟨Or.inl rfl, hK i2 g 0 (Or.inr rfl) (Or.inr ⟨rfl, ?_⟩)⟩), fun y => e_X7_isNear_119_m16 ⟨Or.inr rfl, hK i2 g 1 (Or.inr rfl) (Or.inl ⟨rfl, ?_⟩)⟩⟩
    · rcases hr with ⟨x, -⟩ | ⟨x, -⟩ | ⟨-, x⟩
      · rw [x] at y; exact absurd y (by decide)
      · rw [x] at y; exact absurd y (by decide)
      · omega
    · rcases hr with ⟨-, x⟩ | ⟨-, x⟩ | ⟨x, -⟩
      · omega
      · omega
      · rw [x] at y; exact absurd (by decide) y
  · rw [v1, v2] at hr
    have hlt : M2 ≤ M1 := by
      rcases hr with ⟨y, -⟩ | ⟨-, y⟩ | ⟨-, y⟩
      · rw [y] at z; exact absurd (by decide) z
      · omega
      · omega
    refine e_X7_isNear_67_m16 ⟨fun y => absurd y (by decide), fun _ => e_X7_isNear_81_m16 ⟨fun y => absurd y (by decide), fun _ => e_X7_isNear_97_m16 ?_⟩⟩
    rw [e48]
    refine i_X7_subtract (s_addTimes (a := i1) (b := i2) (la := 48) (lb := 48) hne.1 h4.1 hs1 hs2 ⟨by decide, by decide⟩ ⟨by decide, by decide⟩ g1 g2 (by rw [v1, v2, em]; omega) (fun g k1 k2 k3 => rV_in (rV_in ?_)))
    rw [v1, v2, em] at k2
    have r2 : u1 F i1 g i1 = g := u1_at _ _ _
    have r3 : u1 F i1 g i3 = F i3 := u1_ne _ _ (fun y => hne.2.1 y.symm)
    refine s_compare (F := u1 F i1 g) (la := 48) (lb := 48) hs1 hs3 ⟨by decide, by decide⟩ ⟨by decide, by decide⟩ (by rw [r2]; exact k1) (by rw [r3]; exact g3) (fun r hr => rI_in ?_)
    rw [r2, r3, v3, k2] at hr
    refine ⟨fun y => e_X7_isNear_118_m16 (e_X7_isNear_119_m16 ⟨Or.inl rfl, hK i1 g 0 (Or.inl rfl) (Or.inr ⟨rfl, ?_⟩)⟩), fun y => e_X7_isNear_119_m16 ⟨Or.inr rfl, hK i1 g 1 (Or.inl rfl) (Or.inl ⟨rfl, ?_⟩)⟩⟩
    · rcases hr with ⟨x, -⟩ | ⟨x, -⟩ | ⟨-, x⟩
      · rw [x] at y; exact absurd y (by decide)
      · rw [x] at y; exact absurd y (by decide)
      · omega
    · rcases hr with ⟨-, x⟩ | ⟨-, x⟩ | ⟨x, -⟩
      · omega
      · omega
      · rw [x] at y; exact absurd (by decide) y
theorem mul3_lt {f x y a b c : Int} {k m n t : Nat} (hf : 0 ≤ f ∧ f ≤ 2 ^ k) (hx : 0 ≤ x ∧ x ≤ 2 ^ m) (hy : 0 ≤ y ∧ y ≤ 2 ^ n) (ht : k + (m + n) = t) : f * (x * y) ≤ 2 ^ t := by
  have e1 := mulb hx.1 hx.2 hy.1 hy.2
  have e2 := mulb hf.1 hf.2 e1.1 e1.2
  have e3 : (2 : Int) ^ k * (2 ^ m * 2 ^ n) = 2 ^ t := by rw [← Int.pow_add, ← Int.pow_add, ht]
  rw [← e3]; exact e2.2
set_option maxHeartbeats 2000000 in
theorem s_isNear (hN : 92 ≤ nn) (P1 : Pt 16 (S, F, J, R, nn) T B) (P2 : Pt 38 (S, F, J, R, nn) T' B') (hB : B < 2 ^ 600) (hB' : B' < 2 ^ 600) (hw : 0 ≤ w.toInt ∧ w.toInt ≤ 2000000) (hw2 : 0 ≤ w2.toInt ∧ w2.toInt ≤ 2000000) (ha : 0 ≤ a.toInt ∧ a.toInt ≤ 1000000) (hb : 1 ≤ b.toInt ∧ b.toInt ≤ 1000000)
    (hK : ∀ X' (y : Int32), FrN (S, F, J, R, nn) X' → ((y = 1 ∧ b.toInt * ((T + w.toInt * B) * B') - b.toInt * ((T' + w2.toInt * B') * B) ≤ (a.toInt + b.toInt) * (B * B') ∧ b.toInt * ((T' + w2.toInt * B') * B) - b.toInt * ((T + w.toInt * B) * B') ≤ (a.toInt + b.toInt) * (B * B')) ∨ (y = 0 ∧ ((a.toInt + b.toInt) * (B * B') < b.toInt * ((T + w.toInt * B) * B') - b.toInt * ((T' + w2.toInt * B') * B) ∨ (a.toInt + b.toInt) * (B * B') < b.toInt * ((T' + w2.toInt * B') * B) - b.toInt * ((T + w.toInt * B) * B')))) → K (some (vI y)) X') : w_X7_isNear tb0 [vR (some 16), vI w, vR (some 38), vI w2, vI a, vI b] (S, F, J, R, nn) K KX := by
  obtain ⟨t1, t2, t3, t4, t5, t6⟩ := Pt_24 P1
  obtain ⟨d1, d2, d3, d4, d5, d6⟩ := Pt_24 P2
  have ab : (a + b).toInt = a.toInt + b.toInt := by rw [n_add] <;> omega
  have p24 : (2 : Int) ^ 621 ≤ (1073741824 : Int) ^ 24 := by decide +kernel
  have p48 : (2 : Int) ^ 1242 < (1073741824 : Int) ^ 48 := by decide +kernel
  have p621 : (2 : Int) ^ 621 = 2097152 * 2 ^ 600 := by decide +kernel
  have p21 : (2 : Int) ^ 21 = 2097152 := by decide
  have p0 : (0 : Int) < 2 ^ 600 := Int.pow_pos (by decide)
  have A0 : 0 ≤ T + w.toInt * B ∧ T + w.toInt * B < 2 ^ 621 := by
    have e := mulb hw.1 hw.2 (show 0 ≤ B by omega) (show B ≤ 2 ^ 600 by omega)
    rw [p621]
    generalize (2 : Int) ^ 600 = Q at *
    omega
  have A0' : 0 ≤ T' + w2.toInt * B' ∧ T' + w2.toInt * B' < 2 ^ 621 := by
    have e := mulb hw2.1 hw2.2 (show 0 ≤ B' by omega) (show B' ≤ 2 ^ 600 by omega)
    rw [p621]
    generalize (2 : Int) ^ 600 = Q at *
    omega
  have bb : 0 ≤ b.toInt ∧ b.toInt ≤ 2 ^ 21 := by rw [p21]; omega
  have abb : 0 ≤ (a + b).toInt ∧ (a + b).toInt ≤ 2 ^ 21 := by rw [p21]; omega
  have m1 : b.toInt * ((T + w.toInt * B) * B') < (1073741824 : Int) ^ 48 := Int.lt_of_le_of_lt (mul3_lt (a := 0) (b := 0) (c := 0) bb ⟨A0.1, Int.le_of_lt A0.2⟩ ⟨show 0 ≤ B' by omega, Int.le_of_lt hB'⟩ rfl) p48
  have m2 : b.toInt * ((T' + w2.toInt * B') * B) < (1073741824 : Int) ^ 48 := Int.lt_of_le_of_lt (mul3_lt (a := 0) (b := 0) (c := 0) bb ⟨A0'.1, Int.le_of_lt A0'.2⟩ ⟨show 0 ≤ B by omega, Int.le_of_lt hB⟩ rfl) p48
  have m3 : (a + b).toInt * (B * B') < (1073741824 : Int) ^ 48 := by
    have := mul3_lt (a := 0) (b := 0) (c := 0) (t := 1221) abb ⟨show 0 ≤ B by omega, Int.le_of_lt hB⟩ ⟨show 0 ≤ B' by omega, Int.le_of_lt hB'⟩ rfl
    have p : (2 : Int) ^ 1221 < (1073741824 : Int) ^ 48 := by decide +kernel
    exact Int.lt_of_le_of_lt this p
  refine i_X7_isNear_m16 (s_totalTop_16 hN t1 t2 t3 t4 ⟨A0.1, Int.lt_of_lt_of_le A0.2 p24⟩ (fun g1 k1 k2 => rR_in ?_))
  have f40 : u1 F nn g1 40 = F 40 := u1_ne _ _ (by omega)
  have fn : u1 F nn g1 nn = g1 := u1_at _ _ _
  have h1 : ∀ I J' R' n', shp tb0 (u1 S nn (1, 24), I, J', R', n') nn = (1, 24) := fun I J' R' n' => by
    rw [shp_hi hN]
    show u1 S nn (1, 24) nn = _
    rw [u1_at]
  refine s_product (b0 := nn) (b1 := 40) (by omega) (by omega) (by omega) h1 (fun I J' R' n' => rfl) (by rw [fn]; exact k1) (by rw [f40]; exact d2) bb.1 (by rw [fn, f40, k2, d4]; exact m1) (fun g2 k3 k4 => rR_in ?_)
  rw [fn, f40, k2, d4] at k4
  have e39 : u1 (u1 F nn g1) (nn + 1) g2 39 = F 39 := by rw [u1_ne _ _ (by omega), u1_ne _ _ (by omega)]
  have e40 : u1 (u1 F nn g1) (nn + 1) g2 40 = F 40 := by rw [u1_ne _ _ (by omega), u1_ne _ _ (by omega)]
  refine s_totalTop_38 (by omega) (by rw [e39]; exact d1) (by rw [e40]; exact d2) (by rw [e39]; exact d3) (by rw [e40]; exact d4) ⟨A0'.1, Int.lt_of_lt_of_le A0'.2 p24⟩ (fun g3 k5 k6 => rR_in ?_)
  have f18 : u1 (u1 (u1 F nn g1) (nn + 1) g2) (nn + 1 + 1) g3 18 = F 18 := by rw [u1_ne _ _ (by omega), u1_ne _ _ (by omega), u1_ne _ _ (by omega)]
  have fn2 : u1 (u1 (u1 F nn g1) (nn + 1) g2) (nn + 1 + 1) g3 (nn + 1 + 1) = g3 := u1_at _ _ _
  have h2 : ∀ I J' R' n', shp tb0 (u1 (u1 (u1 S nn (1, 24)) (nn + 1) (1, 48)) (nn + 1 + 1) (1, 24), I, J', R', n') (nn + 1 + 1) = (1, 24) := fun I J' R' n' => by
    rw [shp_hi (by omega)]
    show u1 (u1 (u1 S nn (1, 24)) (nn + 1) (1, 48)) (nn + 1 + 1) (1, 24) (nn + 1 + 1) = _
    rw [u1_at]
  refine s_product (b0 := nn + 1 + 1) (b1 := 18) (by omega) (by omega) (by omega) h2 (fun I J' R' n' => rfl) (by rw [fn2]; exact k5) (by rw [f18]; exact t2) bb.1 (by rw [fn2, f18, k6, t4]; exact m2) (fun g4 k7 k8 => rR_in ?_)
  rw [fn2, f18, k6, t4] at k8
  have l18 : u1 (u1 (u1 (u1 F nn g1) (nn + 1) g2) (nn + 1 + 1) g3) (nn + 1 + 1 + 1) g4 18 = F 18 := by rw [u1_ne _ _ (by omega), u1_ne _ _ (by omega), u1_ne _ _ (by omega), u1_ne _ _ (by omega)]
  have l40 : u1 (u1 (u1 (u1 F nn g1) (nn + 1) g2) (nn + 1 + 1) g3) (nn + 1 + 1 + 1) g4 40 = F 40 := by rw [u1_ne _ _ (by omega), u1_ne _ _ (by omega), u1_ne _ _ (by omega), u1_ne _ _ (by omega)]
  refine s_product (b0 := 18) (b1 := 40) (by omega) (by omega) (by omega) (fun I J' R' n' => rfl) (fun I J' R' n' => rfl) (by rw [l18]; exact t2) (by rw [l40]; exact d2) abb.1 (by rw [l18, l40, t4, d4]; exact m3) (fun g5 k9 k10 => rR_in ?_)
  rw [l18, l40, t4, d4, ab] at k10
  refine near_end (i1 := nn + 1) (i2 := nn + 1 + 1 + 1) (i3 := nn + 1 + 1 + 1 + 1) ⟨by omega, by omega⟩ ⟨by omega, by omega, by omega⟩ (fun I => ?_) (fun I => ?_) (fun I => ?_) ?_ ?_ ?_ ?_ ?_ ?_ (fun i g y hi hy => hK _ y ?_ hy)
  · rw [shp_hi (by omega)]
    show u1 (u1 (u1 (u1 (u1 S nn (1, 24)) (nn + 1) (1, 48)) (nn + 1 + 1) (1, 24)) (nn + 1 + 1 + 1) (1, 48)) (nn + 1 + 1 + 1 + 1) (1, 48) (nn + 1) = _
    rw [u1_ne _ _ (by omega), u1_ne _ _ (by omega), u1_ne _ _ (by omega), u1_at]
  · rw [shp_hi (by omega)]
    show u1 (u1 (u1 (u1 (u1 S nn (1, 24)) (nn + 1) (1, 48)) (nn + 1 + 1) (1, 24)) (nn + 1 + 1 + 1) (1, 48)) (nn + 1 + 1 + 1 + 1) (1, 48) (nn + 1 + 1 + 1) = _
    rw [u1_ne _ _ (by omega), u1_at]
  · rw [shp_hi (by omega)]
    show u1 (u1 (u1 (u1 (u1 S nn (1, 24)) (nn + 1) (1, 48)) (nn + 1 + 1) (1, 24)) (nn + 1 + 1 + 1) (1, 48)) (nn + 1 + 1 + 1 + 1) (1, 48) (nn + 1 + 1 + 1 + 1) = _
    rw [u1_at]
  · rw [u1_ne _ _ (by omega), u1_ne _ _ (by omega), u1_ne _ _ (by omega), u1_at]; exact k3
  · rw [u1_ne _ _ (by omega), u1_at]; exact k7
  · rw [u1_at]; exact k9
  · rw [u1_ne _ _ (by omega), u1_ne _ _ (by omega), u1_ne _ _ (by omega), u1_at]; exact k4
  · rw [u1_ne _ _ (by omega), u1_at]; exact k8
  · rw [u1_at]; exact k10
  · refine ⟨by show nn ≤ nn + 1 + 1 + 1 + 1 + 1; omega, fun k hk => ?_⟩
    have hk' : k < nn := hk
    refine ⟨?_, ?_, ?_, ?_⟩
    · show u1 (u1 (u1 (u1 (u1 S nn _) (nn + 1) _) (nn + 1 + 1) _) (nn + 1 + 1 + 1) _) (nn + 1 + 1 + 1 + 1) _ k = S k
      rw [u1_ne _ _ (by omega), u1_ne _ _ (by omega), u1_ne _ _ (by omega), u1_ne _ _ (by omega), u1_ne _ _ (by omega)]
    · show u1 (u1 (u1 (u1 (u1 (u1 F nn _) (nn + 1) _) (nn + 1 + 1) _) (nn + 1 + 1 + 1) _) (nn + 1 + 1 + 1 + 1) _) i g k = F k
      rw [u1_ne _ _ (by omega), u1_ne _ _ (by omega), u1_ne _ _ (by omega), u1_ne _ _ (by omega), u1_ne _ _ (by omega), u1_ne _ _ (by omega)]
    · show u1 (u1 (u1 (u1 (u1 J nn _) (nn + 1) _) (nn + 1 + 1) _) (nn + 1 + 1 + 1) _) (nn + 1 + 1 + 1 + 1) _ k = J k
      rw [u1_ne _ _ (by omega), u1_ne _ _ (by omega), u1_ne _ _ (by omega), u1_ne _ _ (by omega), u1_ne _ _ (by omega)]
    · show u1 (u1 (u1 (u1 (u1 R nn _) (nn + 1) _) (nn + 1 + 1) _) (nn + 1 + 1 + 1) _) (nn + 1 + 1 + 1 + 1) _ k = R k
      rw [u1_ne _ _ (by omega), u1_ne _ _ (by omega), u1_ne _ _ (by omega), u1_ne _ _ (by omega), u1_ne _ _ (by omega)]
end Near
