/-! the end of a hire: flatP prices -/
section Fla
variable {S : Nat → Nat × Nat} {F : Nat → Nat → Int32} {J : Nat → Nat → Int64} {R : Nat → Nat → Option Nat} {nn : Nat} {X : AX} {K : Option AV → AX → Prop} {KX : String → AX → Prop} {f : Nat → Int32} {k q d c : Nat} {a0 a1 : Int32}
def flatP (f : Nat → Int32) (k q : Nat) (z o : Int32) : Prop := q = 3 ∧ ((z = f (15 * k + 11) ∧ o = f (15 * k + 12)) ∨ (z = f (15 * k + 12) ∧ o = f (15 * k + 11)))
theorem s_flat3 (hd : shp tb0 X d = (13, 1)) (hd1 : shp tb0 X (d + 1) = (1, 15)) (hf : ∀ j, j < 15 → xI X (d + 1) j = f (15 * k + j)) (h1 : flatP f k 3 a0 a1 → K (some (vI 1)) X) (h0 : ¬ flatP f k 3 a0 a1 → K (some (vI 0)) X) : w_X3_isFlatBetween tb0 [vR (some d), vI a0, vI a1] X K KX := by
  have f11 : xI X (d + 1) (Int32.toNatClampNeg 11) = f (15 * k + 11) := hf 11 (by decide)
  have f12 : xI X (d + 1) (Int32.toNatClampNeg 12) = f (15 * k + 12) := hf 12 (by decide)
  have k28 : ¬ (a0 = f (15 * k + 11) ∧ a1 = f (15 * k + 12)) → r_X3_isFlatBetween tb0 K KX 28 [some (vR (some d)), some (vI a0), some (vI a1), some (vI (f (15 * k + 11))), some (vI (f (15 * k + 12)))] [] X 0 0 := fun z =>
    e_X3_isFlatBetween_28 ⟨fun z2 => e_X3_isFlatBetween_43 (e_X3_isFlatBetween_44 ⟨Or.inl rfl, h0 (fun y => by rcases y.2 with y | y; exact z y; exact z2 y.1)⟩), fun z2 => ⟨fun z3 => e_X3_isFlatBetween_43 (e_X3_isFlatBetween_44 ⟨Or.inl rfl, h0 (fun y => by rcases y.2 with y | y; exact z y; exact z3 y.2)⟩), fun z3 => e_X3_isFlatBetween_39 (e_X3_isFlatBetween_44 ⟨Or.inr rfl, h1 ⟨rfl, Or.inr ⟨z2, z3⟩⟩⟩)⟩⟩
  refine i_X3_isFlatBetween ?_
  rw [hd, hd1, f11, f12]
  exact gd_in ⟨by decide, rfl⟩ (gd_in rfl ⟨by unfold vp_in; decide, gd_in ⟨by decide, rfl⟩ (gd_in rfl ⟨by unfold vp_in; decide, fun z => k28 (fun y => z y.1), fun z => ⟨fun z2 => e_X3_isFlatBetween_39 (e_X3_isFlatBetween_44 ⟨Or.inr rfl, h1 ⟨rfl, Or.inl ⟨z, z2⟩⟩⟩), fun z2 => k28 (fun y => z2 y.2)⟩⟩)⟩)
theorem s_dflat (hd : shp tb0 X d = (kcl q, 1)) (hd1 : shp tb0 X (d + 1) = (1, 15)) (hq : q < 5) (hf : ∀ j, j < 15 → xI X (d + 1) j = f (15 * k + j)) (h1 : flatP f k q a0 a1 → K (some (vI 1)) X) (h0 : ¬ flatP f k q a0 a1 → K (some (vI 0)) X) : dsp (shp tb0 X d).1 (fun w => w [vR (some d), vI a0, vI a1] X K (fun _ _ => False)) [(0, w_X1_isFlatBetween tb0), (1, w_X1_isFlatBetween tb0), (2, w_X1_isFlatBetween tb0), (3, w_X3_isFlatBetween tb0), (6, w_X1_isFlatBetween tb0)] := by
  generalize hcc : (shp tb0 X d).1 = c
  have hck : c = kcl q := by rw [← hcc, hd]
  subst hck
  have hq5 : q = 0 ∨ q = 1 ∨ q = 2 ∨ q = 3 ∨ q = 4 := by omega
  rcases hq5 with rfl | rfl | rfl | rfl | rfl
  · exact ⟨fun z => absurd z (by decide), fun _ => ⟨fun _ => i_X1_isFlatBetween ⟨Or.inl rfl, h0 (fun z => absurd z.1 (by decide))⟩, fun z => absurd rfl z⟩⟩
  · exact ⟨fun z => absurd z (by decide), fun _ => ⟨fun z => absurd z (by decide), fun _ => ⟨fun z => absurd z (by decide), fun _ => ⟨fun z => absurd z (by decide), fun _ => ⟨fun _ => i_X1_isFlatBetween ⟨Or.inl rfl, h0 (fun z => absurd z.1 (by decide))⟩, fun z => absurd rfl z⟩⟩⟩⟩⟩
  · exact ⟨fun z => absurd z (by decide), fun _ => ⟨fun z => absurd z (by decide), fun _ => ⟨fun _ => i_X1_isFlatBetween ⟨Or.inl rfl, h0 (fun z => absurd z.1 (by decide))⟩, fun z => absurd rfl z⟩⟩⟩
  · exact ⟨fun z => absurd z (by decide), fun _ => ⟨fun z => absurd z (by decide), fun _ => ⟨fun z => absurd z (by decide), fun _ => ⟨fun _ => s_flat3 hd hd1 hf h1 h0, fun z => absurd rfl z⟩⟩⟩⟩
  · exact ⟨fun _ => i_X1_isFlatBetween ⟨Or.inl rfl, h0 (fun z => absurd z.1 (by decide))⟩, fun z => absurd rfl z⟩
theorem s_finish_15 (hd : 92 ≤ d) (hs : S d = (kcl q, 1)) (hs1 : S (d + 1) = (1, 15)) (hq : q < 5) (rt : R 15 1 = some d) (hf : ∀ j, j < 15 → F (d + 1) j = f (15 * k + j)) (h1 : F 15 12 = 0 → flatP f k q a0 a1 → K (some (vI 1)) (S, F, u2 J 15 6 ((f (15 * k + 13)).toInt64 + (F 15 9).toInt64), R, nn)) (h0 : ¬ (F 15 12 = 0 ∧ flatP f k q a0 a1) → K (some (vI 0)) (S, F, J, R, nn)) : w_X5_finish tb0 [vR (some 15), vI a0, vI a1] (S, F, J, R, nn) K KX := by
  have sh : ∀ I J' R' n', shp tb0 (S, I, J', R', n') d = (kcl q, 1) := fun I J' R' n' => by rw [shp_hi hd]; exact hs
  have sh1 : ∀ I J' R' n', shp tb0 (S, I, J', R', n') (d + 1) = (1, 15) := fun I J' R' n' => by rw [shp_hi (by omega)]; exact hs1
  have hc := isC_k q hq
  have f13 : F (d + 1) (Int32.toNatClampNeg 13) = f (15 * k + 13) := hf 13 (by decide)
  have k0 : ¬ (F 15 12 = 0 ∧ flatP f k q a0 a1) → r_X5_finish tb0 K KX 23 [some (vR (some 15)), some (vI a0), some (vI a1), none] [] (S, F, J, R, nn) 0 0 := fun z => e_X5_finish_23_m15 (e_X5_finish_24_m15 ⟨fun _ => e_X5_finish_50_m15 ⟨Or.inl rfl, h0 z⟩, fun y => absurd rfl y⟩)
  refine i_X5_finish_m15 ⟨fun z => k0 (fun y => z y.1), fun z => onS_eq rt (s_dflat (sh _ _ _ _) (sh1 _ _ _ _) hq hf (fun w => rI_in ⟨fun y => absurd y (by decide), fun _ => e_X5_finish_24_m15 ⟨fun y => absurd y (by decide), fun _ => onS_eq rt (gd_in ⟨by rw [sh]; exact hc, by rw [sh]⟩ (gd_in (by rw [sh1]) ⟨by rw [sh1]; unfold vp_in; decide, e_X5_finish_50_m15 ⟨Or.inr rfl, ?_⟩⟩))⟩⟩) (fun w => rI_in ⟨fun _ => k0 (fun y => w y.2), fun y => absurd rfl y⟩))⟩
  rw [show xI (S, F, J, R, nn) (d + 1) (Int32.toNatClampNeg 13) = f (15 * k + 13) from f13]
  exact h1 z w
theorem s_finish_29 (hd : 92 ≤ d) (hs : S d = (kcl q, 1)) (hs1 : S (d + 1) = (1, 15)) (hq : q < 5) (rt : R 29 1 = some d) (hf : ∀ j, j < 15 → F (d + 1) j = f (15 * k + j)) (h1 : F 29 12 = 0 → flatP f k q a0 a1 → K (some (vI 1)) (S, F, u2 J 29 6 ((f (15 * k + 13)).toInt64 + (F 29 9).toInt64), R, nn)) (h0 : ¬ (F 29 12 = 0 ∧ flatP f k q a0 a1) → K (some (vI 0)) (S, F, J, R, nn)) : w_X5_finish tb0 [vR (some 29), vI a0, vI a1] (S, F, J, R, nn) K KX := by
  have sh : ∀ I J' R' n', shp tb0 (S, I, J', R', n') d = (kcl q, 1) := fun I J' R' n' => by rw [shp_hi hd]; exact hs
  have sh1 : ∀ I J' R' n', shp tb0 (S, I, J', R', n') (d + 1) = (1, 15) := fun I J' R' n' => by rw [shp_hi (by omega)]; exact hs1
  have hc := isC_k q hq
  have f13 : F (d + 1) (Int32.toNatClampNeg 13) = f (15 * k + 13) := hf 13 (by decide)
  have k0 : ¬ (F 29 12 = 0 ∧ flatP f k q a0 a1) → r_X5_finish tb0 K KX 23 [some (vR (some 29)), some (vI a0), some (vI a1), none] [] (S, F, J, R, nn) 0 0 := fun z => e_X5_finish_23_m29 (e_X5_finish_24_m29 ⟨fun _ => e_X5_finish_50_m29 ⟨Or.inl rfl, h0 z⟩, fun y => absurd rfl y⟩)
  refine i_X5_finish_m29 ⟨fun z => k0 (fun y => z y.1), fun z => onS_eq rt (s_dflat (sh _ _ _ _) (sh1 _ _ _ _) hq hf (fun w => rI_in ⟨fun y => absurd y (by decide), fun _ => e_X5_finish_24_m29 ⟨fun y => absurd y (by decide), fun _ => onS_eq rt (gd_in ⟨by rw [sh]; exact hc, by rw [sh]⟩ (gd_in (by rw [sh1]) ⟨by rw [sh1]; unfold vp_in; decide, e_X5_finish_50_m29 ⟨Or.inr rfl, ?_⟩⟩))⟩⟩) (fun w => rI_in ⟨fun _ => k0 (fun y => w y.2), fun y => absurd rfl y⟩))⟩
  rw [show xI (S, F, J, R, nn) (d + 1) (Int32.toNatClampNeg 13) = f (15 * k + 13) from f13]
  exact h1 z w
theorem s_finish_37 (hd : 92 ≤ d) (hs : S d = (kcl q, 1)) (hs1 : S (d + 1) = (1, 15)) (hq : q < 5) (rt : R 37 1 = some d) (hf : ∀ j, j < 15 → F (d + 1) j = f (15 * k + j)) (h1 : F 37 12 = 0 → flatP f k q a0 a1 → K (some (vI 1)) (S, F, u2 J 37 6 ((f (15 * k + 13)).toInt64 + (F 37 9).toInt64), R, nn)) (h0 : ¬ (F 37 12 = 0 ∧ flatP f k q a0 a1) → K (some (vI 0)) (S, F, J, R, nn)) : w_X5_finish tb0 [vR (some 37), vI a0, vI a1] (S, F, J, R, nn) K KX := by
  have sh : ∀ I J' R' n', shp tb0 (S, I, J', R', n') d = (kcl q, 1) := fun I J' R' n' => by rw [shp_hi hd]; exact hs
  have sh1 : ∀ I J' R' n', shp tb0 (S, I, J', R', n') (d + 1) = (1, 15) := fun I J' R' n' => by rw [shp_hi (by omega)]; exact hs1
  have hc := isC_k q hq
  have f13 : F (d + 1) (Int32.toNatClampNeg 13) = f (15 * k + 13) := hf 13 (by decide)
  have k0 : ¬ (F 37 12 = 0 ∧ flatP f k q a0 a1) → r_X5_finish tb0 K KX 23 [some (vR (some 37)), some (vI a0), some (vI a1), none] [] (S, F, J, R, nn) 0 0 := fun z => e_X5_finish_23_m37 (e_X5_finish_24_m37 ⟨fun _ => e_X5_finish_50_m37 ⟨Or.inl rfl, h0 z⟩, fun y => absurd rfl y⟩)
  refine i_X5_finish_m37 ⟨fun z => k0 (fun y => z y.1), fun z => onS_eq rt (s_dflat (sh _ _ _ _) (sh1 _ _ _ _) hq hf (fun w => rI_in ⟨fun y => absurd y (by decide), fun _ => e_X5_finish_24_m37 ⟨fun y => absurd y (by decide), fun _ => onS_eq rt (gd_in ⟨by rw [sh]; exact hc, by rw [sh]⟩ (gd_in (by rw [sh1]) ⟨by rw [sh1]; unfold vp_in; decide, e_X5_finish_50_m37 ⟨Or.inr rfl, ?_⟩⟩))⟩⟩) (fun w => rI_in ⟨fun _ => k0 (fun y => w y.2), fun y => absurd rfl y⟩))⟩
  rw [show xI (S, F, J, R, nn) (d + 1) (Int32.toNatClampNeg 13) = f (15 * k + 13) from f13]
  exact h1 z w
theorem s_ends (hc : c < 5) (hk : k < 12) (hq : q < 5) (h64 : F 64 c = nI k) (h45 : F 45 k = nI q) (hf : ∀ j, j < 15 → F 46 (15 * k + j) = f (15 * k + j)) (h70 : 0 ≤ (F 70 c).toInt) (h1 : F 70 c = 0 → flatP f k q (F 60 c) a1 → K none (S, u2 (u2 (u2 F 61 c a1) 78 c 0) 79 c 1, u2 J 75 c ((f (15 * k + 13)).toInt64 + J 76 c), R, nn)) (h0 : ¬ (F 70 c = 0 ∧ flatP f k q (F 60 c) a1) → K none (S, u2 (u2 F 61 c a1) 78 c 0, J, R, nn)) : w_X12_ends tb0 [vR (some 42), vI (nI c), vI a1] (S, F, J, R, nn) K KX := by
  have ec : (nI c).toNatClampNeg = c := nI_clamp (by omega)
  have ek : (nI k).toNatClampNeg = k := nI_clamp (by omega)
  have vc : vp_in (nI c) 5 := vp_in_nI (by omega) (by decide)
  have e64 : xI (S, F, J, R, nn) 64 (nI c).toNatClampNeg = nI k := by rw [ec]; exact h64
  have x45 : xI (S, F, J, R, nn) 45 k = nI q := h45
  have e0 : (0 : Int32).toInt = 0 := by decide
  have q3 : nI q = nI 3 ↔ q = 3 := nI_eq (by omega) (by decide)
  have k121 : ¬ (F 70 c = 0 ∧ flatP f k q (F 60 c) a1) → r_X12_ends tb0 K KX 121 [some (vR (some 42)), some (vI (nI c)), some (vI a1), some (vI (nI k)), some (vI (f (15 * k + 11))), some (vI (f (15 * k + 12)))] [] (S, u2 (u2 F 61 c a1) 78 c 0, J, R, nn) 0 0 := fun z => e_X12_ends_121 (h0 z)
  have k93 : F 70 c = 0 → flatP f k q (F 60 c) a1 → r_X12_ends tb0 K KX 93 [some (vR (some 42)), some (vI (nI c)), some (vI a1), some (vI (nI k)), some (vI (f (15 * k + 11))), some (vI (f (15 * k + 12)))] [] (S, u2 (u2 F 61 c a1) 78 c 0, J, R, nn) 0 0 := fun z w => by
    refine e_X12_ends_93 ⟨vc, Or.inr rfl, ?_⟩
    rw [ec]
    refine s_num (j := 13) hk (by decide) (rI_in ⟨vc, vc, e_X12_ends_121 ?_⟩)
    have := h1 z w
    rw [← hf 13 (by decide)] at this
    exact this
  have k76 : q = 3 → F 70 c = 0 → ¬ (F 60 c = f (15 * k + 11) ∧ a1 = f (15 * k + 12)) → r_X12_ends tb0 K KX 76 [some (vR (some 42)), some (vI (nI c)), some (vI a1), some (vI (nI k)), some (vI (f (15 * k + 11))), some (vI (f (15 * k + 12)))] [] (S, u2 (u2 F 61 c a1) 78 c 0, J, R, nn) 0 0 := fun z3 z0 z => by
    refine e_X12_ends_76 ?_
    rw [ec]
    exact ⟨vc, fun z2 => k121 (fun y => by rcases y.2.2 with y | y; exact z y; exact z2 y.1), fun z2 => ⟨fun z4 => k121 (fun y => by rcases y.2.2 with y | y; exact z y; exact z4 y.2), fun z4 => k93 z0 ⟨z3, Or.inr ⟨z2, z4⟩⟩⟩⟩
  refine i_X12_ends ?_
  rw [e64, ek, x45, ec]
  refine ⟨vc, vc, Or.inl rfl, vc, vp_in_nI (by omega) (by decide), fun z => e_X12_ends_40 (h0 (fun y => z (q3.mpr y.2.1))), fun z => ⟨vc, fun z0 => e_X12_ends_41 ?_, fun z0 => e_X12_ends_40 (h0 (fun y => z0 ?_))⟩⟩
  · have z0' : F 70 c = 0 := by
      have := Int32.le_iff_toInt_le.mp z0
      have t : (xI (S, F, J, R, nn) 70 c).toInt = (F 70 c).toInt := rfl
      exact Int32.toInt_inj.mp (by omega)
    have hq3 : q = 3 := q3.mp z
    refine s_num (j := 11) hk (by decide) (rI_in (s_num (j := 12) hk (by decide) (rI_in ?_)))
    rw [ec, show xI (S, u2 (u2 F 61 c a1) 78 c 0, J, R, nn) 46 (15 * k + 11) = f (15 * k + 11) from hf 11 (by decide), show xI (S, u2 (u2 F 61 c a1) 78 c 0, J, R, nn) 46 (15 * k + 12) = f (15 * k + 12) from hf 12 (by decide)]
    exact ⟨vc, fun z2 => k76 hq3 z0' (fun y => z2 y.1), fun z2 => ⟨fun z4 => k93 z0' ⟨hq3, Or.inl ⟨z2, z4⟩⟩, fun z4 => k76 hq3 z0' (fun y => z4 y.2)⟩⟩
  · have : xI (S, F, J, R, nn) 70 c = 0 := y.1
    rw [this]
    exact Int32.le_iff_toInt_le.mpr (Int.le_refl _)
end Fla
/-! the receipt -/
section Wr
variable {S : Nat → Nat × Nat} {F : Nat → Nat → Int32} {J : Nat → Nat → Int64} {R : Nat → Nat → Option Nat} {nn : Nat} {X : AX} {K : Option AV → AX → Prop} {KX : String → AX → Prop} {rid len hh : Nat}
def rcA (x : Int64) : Int32 := Int64.toInt32 (if 2147483647 < x then 2147483647 else x)
def pow6 (len : Nat) : Prop := len = 64 ∨ len = 128 ∨ len = 256 ∨ len = 512 ∨ len = 1024 ∨ len = 2048
theorem cpyN (f g : Nat → Int32) (n : Nat) : va_cpy f g 0 0 n = fun k => if k < n then f k else g k := by
  funext k
  unfold va_cpy
  by_cases hk : k < n <;> simp [hk]
def wrI (F : Nat → Nat → Int32) (J : Nat → Nat → Int64) (rid hh : Nat) : Nat → Nat → Int32 := u2 (u2 (u2 (u2 F rid (4 * hh) (rcA (J 15 6))) rid (4 * hh + 1) (F 15 7)) rid (4 * hh + 2) (F 15 4)) rid (4 * hh + 3) (F 14 10)
theorem ix4b (h : hh < 512) : ((nI hh * 4).toNatClampNeg = 4 * hh ∧ (nI hh * 4).toInt = ((4 * hh : Nat) : Int)) ∧ ((nI hh * 4 + 1).toNatClampNeg = 4 * hh + 1 ∧ (nI hh * 4 + 1).toInt = ((4 * hh + 1 : Nat) : Int)) ∧ ((nI hh * 4 + 2).toNatClampNeg = 4 * hh + 2 ∧ (nI hh * 4 + 2).toInt = ((4 * hh + 2 : Nat) : Int)) ∧ ((nI hh * 4 + 3).toNatClampNeg = 4 * hh + 3 ∧ (nI hh * 4 + 3).toInt = ((4 * hh + 3 : Nat) : Int)) := by
  have e0 : (nI hh).toInt = hh := nI_toInt (by omega)
  have e4 : (4 : Int32).toInt = 4 := by decide
  have e1 : (1 : Int32).toInt = 1 := by decide
  have e2 : (2 : Int32).toInt = 2 := by decide
  have e3 : (3 : Int32).toInt = 3 := by decide
  have m : (nI hh * 4).toInt = ((4 * hh : Nat) : Int) := by rw [n_mul] <;> rw [e0, e4] <;> omega
  have m1 : (nI hh * 4 + 1).toInt = ((4 * hh + 1 : Nat) : Int) := by rw [n_add] <;> rw [m, e1] <;> omega
  have m2 : (nI hh * 4 + 2).toInt = ((4 * hh + 2 : Nat) : Int) := by rw [n_add] <;> rw [m, e2] <;> omega
  have m3 : (nI hh * 4 + 3).toInt = ((4 * hh + 3 : Nat) : Int) := by rw [n_add] <;> rw [m, e3] <;> omega
  have c0 := clp (x := nI hh * 4) (by omega)
  have c1 := clp (x := nI hh * 4 + 1) (by omega)
  have c2 := clp (x := nI hh * 4 + 2) (by omega)
  have c3 := clp (x := nI hh * 4 + 3) (by omega)
  omega
set_option maxHeartbeats 1000000 in
theorem wr_39 (c1 : R 4 10 = some rid) (c2 : rid = 23 ∨ 92 ≤ rid) (c4 : ∀ I J', shp tb0 (S, I, J', R, nn) rid = (1, len)) (hl : 4 * hh + 4 ≤ len) (h5 : hh < 512) (hb : bl (F 14 10)) (hK : K none (S, wrI F J rid hh, J, R, nn)) : r_X11_writeReceipt tb0 K KX 39 [some (vR (some 4)), some (vI (nI hh * 4))] [] (S, F, J, R, nn) 0 0 := by
  obtain ⟨⟨x0, y0⟩, ⟨x1, y1⟩, ⟨x2, y2⟩, ⟨x3, y3⟩⟩ := ix4b h5
  have n15 : 15 ≠ rid := by omega
  have n14 : 14 ≠ rid := by omega
  have g4 : 4 ≤ rid := by omega
  refine e_X11_writeReceipt_39 (onS_eq c1 (gd_in ⟨g4, by rw [c4]⟩ ⟨by rw [c4]; exact vp_in_iff.mpr ⟨by omega, by omega⟩, onS_eq c1 (gd_in ⟨g4, by rw [c4]⟩ ⟨by rw [c4]; exact vp_in_iff.mpr ⟨by omega, by omega⟩, onS_eq c1 (gd_in ⟨g4, by rw [c4]⟩ ⟨by rw [c4]; exact vp_in_iff.mpr ⟨by omega, by omega⟩, ?_⟩)⟩)⟩))
  rw [x0, x1, x2]
  simp only [u2_ne _ _ _ n15, u2_ne _ _ _ n14]
  refine ⟨fun z => e_X11_writeReceipt_119 (e_X11_writeReceipt_120 ?_), fun z => e_X11_writeReceipt_120 ?_⟩
  · refine onS_eq c1 (gd_in ⟨g4, by rw [c4]⟩ ⟨by rw [c4]; exact vp_in_iff.mpr ⟨by omega, by omega⟩, ?_⟩)
    rw [x3]
    have z' : F 14 10 = 0 := z
    unfold wrI at hK
    rw [z'] at hK
    exact hK
  · refine onS_eq c1 (gd_in ⟨g4, by rw [c4]⟩ ⟨by rw [c4]; exact vp_in_iff.mpr ⟨by omega, by omega⟩, ?_⟩)
    rw [x3]
    have z' : F 14 10 = 1 := by
      rcases hb with e | e
      · exact absurd e z
      · exact e
    unfold wrI at hK
    rw [z'] at hK
    exact hK
set_option maxHeartbeats 1000000 in
theorem wr_39b (c1 : R 4 10 = some rid) (c2 : rid = 23 ∨ 92 ≤ rid) (c4 : ∀ I J', shp tb0 (S, I, J', R, nn) rid = (1, len)) (hl : 4 * hh + 4 ≤ len) (h5 : hh < 512) (hb : bl (F 14 10)) (hK : K none (S, wrI F J rid hh, J, R, nn)) : r_X11_writeReceipt tb0 K KX 39 [some (vR (some 4)), some (vI (nI hh * 4))] [] (S, F, J, R, nn) 1 2048 := by
  obtain ⟨⟨x0, y0⟩, ⟨x1, y1⟩, ⟨x2, y2⟩, ⟨x3, y3⟩⟩ := ix4b h5
  have n15 : 15 ≠ rid := by omega
  have n14 : 14 ≠ rid := by omega
  have g4 : 4 ≤ rid := by omega
  refine e_X11_writeReceipt_39b (onS_eq c1 (gd_in ⟨g4, by rw [c4]⟩ ⟨by rw [c4]; exact vp_in_iff.mpr ⟨by omega, by omega⟩, onS_eq c1 (gd_in ⟨g4, by rw [c4]⟩ ⟨by rw [c4]; exact vp_in_iff.mpr ⟨by omega, by omega⟩, onS_eq c1 (gd_in ⟨g4, by rw [c4]⟩ ⟨by rw [c4]; exact vp_in_iff.mpr ⟨by omega, by omega⟩, ?_⟩)⟩)⟩))
  rw [x0, x1, x2]
  simp only [u2_ne _ _ _ n15, u2_ne _ _ _ n14]
  refine ⟨fun z => e_X11_writeReceipt_119b (e_X11_writeReceipt_120b ?_), fun z => e_X11_writeReceipt_120b ?_⟩
  · refine onS_eq c1 (gd_in ⟨g4, by rw [c4]⟩ ⟨by rw [c4]; exact vp_in_iff.mpr ⟨by omega, by omega⟩, ?_⟩)
    rw [x3]
    have z' : F 14 10 = 0 := z
    unfold wrI at hK
    rw [z'] at hK
    exact hK
  · refine onS_eq c1 (gd_in ⟨g4, by rw [c4]⟩ ⟨by rw [c4]; exact vp_in_iff.mpr ⟨by omega, by omega⟩, ?_⟩)
    rw [x3]
    have z' : F 14 10 = 1 := by
      rcases hb with e | e
      · exact absurd e z
      · exact e
    unfold wrI at hK
    rw [z'] at hK
    exact hK
/-- behind the receipt that was written -/
def WrP (hh : Nat) (X X' : AX) : Prop := ∃ rid rid' len' : Nat, xR X 4 10 = some rid ∧ (rid' = rid ∨ rid' = xN X) ∧ xR X' 4 10 = some rid' ∧ (rid' = 23 ∨ 92 ≤ rid') ∧ rid' < xN X' ∧ xN X ≤ xN X' ∧ shp tb0 X' rid' = (1, len') ∧ 64 ≤ len' ∧ pow6 len' ∧ 4 * (hh + 1) ≤ len' ∧ (∀ i, i < xN X → i ≠ rid' → xI X' i = xI X i) ∧ (∀ i, i < xN X → xJ X' i = xJ X i ∧ xS X' i = xS X i) ∧ (∀ i, i < xN X → i ≠ 4 → xR X' i = xR X i) ∧ (∀ j, j < 4 * hh → xI X' rid' j = xI X rid j) ∧ xI X' rid' (4 * hh) = rcA (xJ X 15 6) ∧ xI X' rid' (4 * hh + 1) = xI X 15 7 ∧ xI X' rid' (4 * hh + 2) = xI X 15 4 ∧ xI X' rid' (4 * hh + 3) = xI X 14 10
theorem wrI_at {F : Nat → Nat → Int32} {J : Nat → Nat → Int64} : wrI F J rid hh rid (4 * hh) = rcA (J 15 6) ∧ wrI F J rid hh rid (4 * hh + 1) = F 15 7 ∧ wrI F J rid hh rid (4 * hh + 2) = F 15 4 ∧ wrI F J rid hh rid (4 * hh + 3) = F 14 10 ∧ (∀ j, j < 4 * hh → wrI F J rid hh rid j = F rid j) ∧ ∀ i, i ≠ rid → wrI F J rid hh i = F i := by
  unfold wrI
  refine ⟨?_, ?_, ?_, ?_, fun j hj => ?_, fun i hi => ?_⟩
  · rw [u2_at, if_neg (by omega), u2_at, if_neg (by omega), u2_at, if_neg (by omega), u2_at, if_pos rfl]
  · rw [u2_at, if_neg (by omega), u2_at, if_neg (by omega), u2_at, if_pos rfl]
  · rw [u2_at, if_neg (by omega), u2_at, if_pos rfl]
  · rw [u2_at, if_pos rfl]
  · rw [u2_at, if_neg (by omega), u2_at, if_neg (by omega), u2_at, if_neg (by omega), u2_at, if_neg (by omega)]
  · rw [u2_ne _ _ _ hi, u2_ne _ _ _ hi, u2_ne _ _ _ hi, u2_ne _ _ _ hi]
set_option maxHeartbeats 1000000 in
theorem s_receipt (hN : 92 ≤ nn) (c1 : R 4 10 = some rid) (c2 : rid = 23 ∨ 92 ≤ rid) (c3 : rid < nn) (c4 : shp tb0 (S, F, J, R, nn) rid = (1, len)) (c5 : 64 ≤ len) (c6 : pow6 len) (c7 : 4 * hh ≤ len) (h5 : F 14 5 = nI hh) (hh5 : hh < 512) (hb : bl (F 14 10)) (hK : ∀ X', WrP hh (S, F, J, R, nn) X' → K none X') : w_X11_writeReceipt tb0 [vR (some 4)] (S, F, J, R, nn) K KX := by
  have c4' : ∀ I J' R' n', shp tb0 (S, I, J', R', n') rid = (1, len) := fun I J' R' n' => by
    unfold shp at c4 ⊢
    exact c4
  obtain ⟨⟨x0, y0⟩, -⟩ := ix4b hh5
  have e4 : (4 : Int32).toInt = 4 := by decide
  have e0i : (0 : Int32).toInt = 0 := by decide
  have elen : (Int32.ofNat len).toInt = len := by
    show (nI len).toInt = len
    exact nI_toInt (by unfold pow6 at c6; omega)
  have y4 : (nI hh * 4 + 4).toInt = ((4 * hh + 4 : Nat) : Int) := by rw [n_add] <;> rw [y0, e4] <;> omega
  refine i_X11_writeReceipt (onS_eq c1 ?_)
  rw [c4', show xI (S, F, J, R, nn) 14 5 = nI hh from h5]
  refine gd_in (show (0 : Nat) < 1 ∧ (1 : Nat) < 6 from by decide) ⟨fun z => ?_, fun z => onS_eq c1 ?_⟩
  · have z' := Int32.le_iff_toInt_le.mp z
    rw [y4, elen] at z'
    refine wr_39 c1 c2 (fun I J' => c4' _ _ _ _) (by omega) hh5 hb (hK _ ?_)
    obtain ⟨w1, w2, w3, w4, w5, w6⟩ := wrI_at (rid := rid) (hh := hh) (F := F) (J := J)
    exact ⟨rid, rid, len, c1, Or.inl rfl, c1, c2, c3, Nat.le_refl _, c4' _ _ _ _, c5, c6, by omega, fun i _ hi => w6 i hi, fun i _ => ⟨rfl, rfl⟩, fun i _ _ => rfl, w5, w1, w2, w3, w4⟩
  · have z' : ¬ (nI hh * 4 + 4).toInt ≤ (Int32.ofNat len).toInt := fun y => z (Int32.le_iff_toInt_le.mpr y)
    rw [y4, elen] at z'
    rw [c4', show xR (S, F, J, R, nn) 4 10 = some rid from c1]
    have hlen : len ≤ 1024 := by unfold pow6 at c6; omega
    have e2 : (2 : Int32).toInt = 2 := by decide
    have l2 : (Int32.ofNat len * 2).toInt = ((2 * len : Nat) : Int) := by rw [n_mul] <;> rw [elen, e2] <;> omega
    have el2 : Int32.ofNat len * 2 = nI (2 * len) := Int32.toInt_inj.mp (by rw [l2, nI_toInt (by omega)])
    have cl2 : (nI (2 * len)).toNatClampNeg = 2 * len := nI_clamp (by omega)
    have cl1 : (nI len).toNatClampNeg = len := nI_clamp (by omega)
    have e0 : Int32.toNatClampNeg 0 = 0 := by decide
    rw [el2]
    have nr : rid ≠ nn := by omega
    have al : ∀ I J' R' n', shp tb0 (u1 S nn (1, 2 * len), I, J', R', n') rid = (1, len) := fun I J' R' n' => by
      have := c4' I J' R' n'
      unfold shp at this ⊢
      show (match tb0 rid with | some s => s | none => u1 S nn (1, 2 * len) rid) = _
      rw [u1_ne _ _ nr]; exact this
    have al2 : ∀ I J' R' n', shp tb0 (u1 S nn (1, 2 * len), I, J', R', n') nn = (1, 2 * len) := fun I J' R' n' => by
      rw [shp_hi hN]
      show u1 S nn (1, 2 * len) nn = _
      rw [u1_at]
    have emin : (if nI (2 * len) < nI len then nI (2 * len) else nI len) = nI len := if_neg (fun y => by
      have := Int32.lt_iff_toInt_lt.mp y
      rw [nI_toInt (by omega), nI_toInt (by omega)] at this
      omega)
    refine gd_in (show (0 : Nat) < 1 ∧ (1 : Nat) < 6 from by decide) (i_J7_copyOf_59c91 ?_)
    rw [c4']
    refine gd_in (show (0 : Nat) < 1 ∧ (1 : Nat) < 6 from by decide) ⟨fun _ => e_J7_copyOf_59c91_14 ?_, fun y => ?_⟩
    · rw [cl2]
      refine gd_in (tb0_hi hN) (gd_in ⟨fun y => by have := Int32.lt_iff_toInt_lt.mp y; rw [nI_toInt (by omega)] at this; omega, by omega, by decide, by omega⟩ ?_)
      have s1 : shp tb0 (alloc (S, F, J, R, nn) (1, 2 * len)) rid = (1, len) := al _ _ _ _
      have s2 : shp tb0 (alloc (S, F, J, R, nn) (1, 2 * len)) (xN (S, F, J, R, nn)) = (1, 2 * len) := al2 _ _ _ _
      rw [s1, s2]
      refine gd_in (show (0 : Nat) < 1 ∧ (1 : Nat) < 6 from by decide) (gd_in ⟨by show 4 ≤ nn; omega, by omega, rfl, rfl⟩ ?_)
      show _ ∧ _
      rw [show (if nI (2 * len) < Int32.ofNat (1, len).2 then nI (2 * len) else Int32.ofNat (1, len).2) = nI len from emin, cl1, e0]
      refine ⟨⟨by decide, by decide, fun y => by have := Int32.lt_iff_toInt_lt.mp y; rw [nI_toInt (by omega)] at this; omega, by show 0 + len ≤ len; omega, by show 0 + len ≤ 2 * len; omega⟩, rR_in ?_⟩
      have c1' : u2 (u1 R nn (fun _ => none)) 4 10 (some nn) 4 10 = some nn := by rw [u2_at, if_pos rfl]
      have r14 : u1 (u1 F nn (fun _ => 0)) nn (va_cpy (u1 F nn (fun _ => 0) rid) (u1 F nn (fun _ => 0) nn) 0 0 len) 14 = F 14 := by
        rw [u1_ne _ _ (by omega), u1_ne _ _ (by omega)]
      have r15 : u1 (u1 F nn (fun _ => 0)) nn (va_cpy (u1 F nn (fun _ => 0) rid) (u1 F nn (fun _ => 0) nn) 0 0 len) 15 = F 15 := by
        rw [u1_ne _ _ (by omega), u1_ne _ _ (by omega)]
      have rJ : u1 J nn (fun _ => 0) 15 = J 15 := by rw [u1_ne _ _ (by omega)]
      refine wr_39b (S := u1 S nn (1, 2 * len)) (F := u1 (u1 F nn (fun _ => 0)) nn (va_cpy (u1 F nn (fun _ => 0) rid) (u1 F nn (fun _ => 0) nn) 0 0 len)) (J := u1 J nn (fun _ => 0)) (R := u2 (u1 R nn (fun _ => none)) 4 10 (some nn)) (nn := nn + 1) (rid := nn) (len := 2 * len) c1' (Or.inr hN) (fun I J' => al2 _ _ _ _) (by omega) hh5 (by rw [r14]; exact hb) (hK _ ?_)
      obtain ⟨w1, w2, w3, w4, w5, w6⟩ := wrI_at (rid := nn) (hh := hh) (F := u1 (u1 F nn (fun _ => 0)) nn (va_cpy (u1 F nn (fun _ => 0) rid) (u1 F nn (fun _ => 0) nn) 0 0 len)) (J := u1 J nn (fun _ => 0))
      rw [r15] at w2 w3
      rw [r14] at w4
      rw [rJ] at w1
      refine ⟨rid, nn, 2 * len, c1, Or.inr rfl, c1', Or.inr hN, Nat.lt_succ_self _, Nat.le_succ _, al2 _ _ _ _, by omega, by unfold pow6 at c6 ⊢; omega, by omega, fun i h1 h2 => ?_, fun i h1 => ⟨?_, ?_⟩, fun i h1 h2 => ?_, fun j hj => ?_, w1, w2, w3, w4⟩
      · refine (w6 i h2).trans ?_
        rw [u1_ne _ _ h2, u1_ne _ _ h2]; try rfl
      · have h1' : i < nn := h1
        show u1 J nn (fun _ => 0) i = J i
        rw [u1_ne _ _ (by omega)]
      · have h1' : i < nn := h1
        show u1 S nn (1, 2 * len) i = S i
        rw [u1_ne _ _ (by omega)]
      · have h1' : i < nn := h1
        show u2 (u1 R nn (fun _ => none)) 4 10 (some nn) i = R i
        rw [u2_ne _ _ _ h2, u1_ne _ _ (by omega)]
      · refine (w5 j hj).trans ?_
        rw [u1_at, cpyN]
        show (if j < len then u1 F nn (fun _ => 0) rid j else u1 F nn (fun _ => 0) nn j) = F rid j
        rw [if_pos (by omega), u1_ne _ _ nr]
    · have := congrArg Int32.toInt y
      rw [nI_toInt (by omega), show (Int32.ofNat (1, len).2).toInt = len from elen] at this
      omega
end Wr
