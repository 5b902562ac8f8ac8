/-! a meter takes a tariff, and starts -/
def mkB (k : Nat) : Int32 := 1 <<< (nI k &&& 31)
theorem mkB_bv : ∀ k, k < 12 → (mkB k).toBitVec = BitVec.twoPow 32 k := by decide
theorem mkB_and {x : Int32} {k : Nat} (hk : k < 12) : (x &&& mkB k = 0) ↔ bitc x k = false := by
  have e : (x &&& mkB k).toBitVec = if x.toBitVec.getLsbD k = true then BitVec.twoPow 32 k else 0#32 := by
    show x.toBitVec &&& (mkB k).toBitVec = _
    rw [mkB_bv k hk, BitVec.and_twoPow]
  have hne : ∀ k, k < 12 → BitVec.twoPow 32 k ≠ 0#32 := by decide
  unfold bitc
  constructor
  · intro z
    rw [z] at e
    cases hb : x.toBitVec.getLsbD k with
    | false => rfl
    | true =>
      rw [hb, if_pos rfl] at e
      exact absurd e.symm (hne k hk)
  · intro z
    rw [z, if_neg (by decide)] at e
    exact Int32.toBitVec.inj e
theorem mkB_or {x : Int32} {k j : Nat} (hk : k < 12) : bitc (x ||| mkB k) j = (bitc x j || decide (j = k)) := by
  unfold bitc
  show (x.toBitVec ||| (mkB k).toBitVec).getLsbD j = _
  rw [mkB_bv k hk, BitVec.getLsbD_or, BitVec.getLsbD_twoPow]
  congr 1
  by_cases h : j = k
  · subst h; simp; omega
  · have h' : ¬ k = j := fun z => h z.symm
    simp [h, h']
section Take
variable {X : AX} {S : Nat → Nat × Nat} {F : Nat → Nat → Int32} {J : Nat → Nat → Int64} {R : Nat → Nat → Option Nat} {nn d q k : Nat} {K : Option AV → AX → Prop} {KX : String → AX → Prop}
theorem s_dext (hd : shp tb0 X d = (kcl q, 1)) (hd1 : shp tb0 X (d + 1) = (1, 15)) (hq : q < 5) (h : K (some (vI (if q = 4 then xI X (d + 1) 14 else 0))) X) : dsp (shp tb0 X d).1 (fun w => w [vR (some d)] X K (fun _ _ => False)) [(0, w_X0_extraOfCall tb0), (1, w_X1_extraOfCall tb0), (2, w_X1_extraOfCall tb0), (3, w_X1_extraOfCall tb0), (6, w_X1_extraOfCall tb0)] := by
  have hd' := hd
  generalize hc : (shp tb0 X d).1 = c
  have hck : c = kcl q := by rw [← hc, hd]
  subst hck
  have hq5 : q = 0 ∨ q = 1 ∨ q = 2 ∨ q = 3 ∨ q = 4 := by omega
  rcases hq5 with rfl | rfl | rfl | rfl | rfl
  · exact ⟨fun z => absurd z (by decide), fun _ => ⟨fun _ => i_X1_extraOfCall h, fun z => absurd rfl z⟩⟩
  · exact ⟨fun z => absurd z (by decide), fun _ => ⟨fun z => absurd z (by decide), fun _ => ⟨fun z => absurd z (by decide), fun _ => ⟨fun z => absurd z (by decide), fun _ => ⟨fun _ => i_X1_extraOfCall h, fun z => absurd rfl z⟩⟩⟩⟩⟩
  · exact ⟨fun z => absurd z (by decide), fun _ => ⟨fun z => absurd z (by decide), fun _ => ⟨fun _ => i_X1_extraOfCall h, fun z => absurd rfl z⟩⟩⟩
  · exact ⟨fun z => absurd z (by decide), fun _ => ⟨fun z => absurd z (by decide), fun _ => ⟨fun z => absurd z (by decide), fun _ => ⟨fun _ => i_X1_extraOfCall h, fun z => absurd rfl z⟩⟩⟩⟩
  · refine ⟨fun _ => i_X0_extraOfCall ?_, fun z => absurd rfl z⟩
    rw [hd', hd1]
    exact gd_in ⟨by decide, rfl⟩ (gd_in rfl ⟨by unfold vp_in; decide, h⟩)
theorem s_take_15 (hd : 92 ≤ d) (hs : S d = (kcl q, 1)) (hs1 : S (d + 1) = (1, 15)) (hq : q < 5) (hk : k < 12) (hn : F d 0 = nI k) (h0 : bitc (F 15 11) k = true → K none (S, F, J, u2 R 15 1 (some d), nn)) (h1 : bitc (F 15 11) k = false → K none (S, u2 (u2 F 15 11 (F 15 11 ||| mkB k)) 15 9 (F 15 9 + (if q = 4 then F (d + 1) 14 else 0)), u2 J 15 6 (J 15 6 + (if q = 4 then F (d + 1) 14 else 0 : Int32).toInt64), u2 R 15 1 (some d), nn)) : w_X5_take tb0 [vR (some 15), vR (some d)] (S, F, J, R, nn) K KX := by
  have sh : ∀ I J' R' n', shp tb0 (S, I, J', R', n') d = (kcl q, 1) := fun I J' R' n' => by rw [shp_hi hd]; exact hs
  have sh1 : ∀ I J' R' n', shp tb0 (S, I, J', R', n') (d + 1) = (1, 15) := fun I J' R' n' => by rw [shp_hi (by omega)]; exact hs1
  refine i_X5_take_m15 ?_
  dsimp only [xI, xJ, xR, xS, xN]
  rw [hn]
  refine gd_in (by rw [sh]; exact isC_k q hq) ⟨fun c => e_X5_take_39_m15 (h0 ?_), fun c => s_dext (q := q) (sh _ _ _ _) (sh1 _ _ _ _) hq (rI_in (i_X5_charge_m15 (rV_in (e_X5_take_39_m15 ?_))))⟩
  · cases hb : bitc (F 15 11) k with
    | true => rfl
    | false => exact absurd ((mkB_and hk).mpr hb) c
  · have z := h1 ((mkB_and hk).mp c)
    have e : u2 F 15 11 (F 15 11 ||| mkB k) (d + 1) 14 = F (d + 1) 14 := by rw [u2_ne _ _ _ (by omega)]
    show K none (S, u2 (u2 F 15 11 (F 15 11 ||| mkB k)) 15 9 (F 15 9 + (if q = 4 then u2 F 15 11 (F 15 11 ||| mkB k) (d + 1) 14 else 0)), u2 J 15 6 (J 15 6 + (if q = 4 then u2 F 15 11 (F 15 11 ||| mkB k) (d + 1) 14 else 0 : Int32).toInt64), u2 R 15 1 (some d), nn)
    rw [e]; exact z
theorem s_take_29 (hd : 92 ≤ d) (hs : S d = (kcl q, 1)) (hs1 : S (d + 1) = (1, 15)) (hq : q < 5) (hk : k < 12) (hn : F d 0 = nI k) (h0 : bitc (F 29 11) k = true → K none (S, F, J, u2 R 29 1 (some d), nn)) (h1 : bitc (F 29 11) k = false → K none (S, u2 (u2 F 29 11 (F 29 11 ||| mkB k)) 29 9 (F 29 9 + (if q = 4 then F (d + 1) 14 else 0)), u2 J 29 6 (J 29 6 + (if q = 4 then F (d + 1) 14 else 0 : Int32).toInt64), u2 R 29 1 (some d), nn)) : w_X5_take tb0 [vR (some 29), vR (some d)] (S, F, J, R, nn) K KX := by
  have sh : ∀ I J' R' n', shp tb0 (S, I, J', R', n') d = (kcl q, 1) := fun I J' R' n' => by rw [shp_hi hd]; exact hs
  have sh1 : ∀ I J' R' n', shp tb0 (S, I, J', R', n') (d + 1) = (1, 15) := fun I J' R' n' => by rw [shp_hi (by omega)]; exact hs1
  refine i_X5_take_m29 ?_
  dsimp only [xI, xJ, xR, xS, xN]
  rw [hn]
  refine gd_in (by rw [sh]; exact isC_k q hq) ⟨fun c => e_X5_take_39_m29 (h0 ?_), fun c => s_dext (q := q) (sh _ _ _ _) (sh1 _ _ _ _) hq (rI_in (i_X5_charge_m29 (rV_in (e_X5_take_39_m29 ?_))))⟩
  · cases hb : bitc (F 29 11) k with
    | true => rfl
    | false => exact absurd ((mkB_and hk).mpr hb) c
  · have z := h1 ((mkB_and hk).mp c)
    have e : u2 F 29 11 (F 29 11 ||| mkB k) (d + 1) 14 = F (d + 1) 14 := by rw [u2_ne _ _ _ (by omega)]
    show K none (S, u2 (u2 F 29 11 (F 29 11 ||| mkB k)) 29 9 (F 29 9 + (if q = 4 then u2 F 29 11 (F 29 11 ||| mkB k) (d + 1) 14 else 0)), u2 J 29 6 (J 29 6 + (if q = 4 then u2 F 29 11 (F 29 11 ||| mkB k) (d + 1) 14 else 0 : Int32).toInt64), u2 R 29 1 (some d), nn)
    rw [e]; exact z
theorem s_take_37 (hd : 92 ≤ d) (hs : S d = (kcl q, 1)) (hs1 : S (d + 1) = (1, 15)) (hq : q < 5) (hk : k < 12) (hn : F d 0 = nI k) (h0 : bitc (F 37 11) k = true → K none (S, F, J, u2 R 37 1 (some d), nn)) (h1 : bitc (F 37 11) k = false → K none (S, u2 (u2 F 37 11 (F 37 11 ||| mkB k)) 37 9 (F 37 9 + (if q = 4 then F (d + 1) 14 else 0)), u2 J 37 6 (J 37 6 + (if q = 4 then F (d + 1) 14 else 0 : Int32).toInt64), u2 R 37 1 (some d), nn)) : w_X5_take tb0 [vR (some 37), vR (some d)] (S, F, J, R, nn) K KX := by
  have sh : ∀ I J' R' n', shp tb0 (S, I, J', R', n') d = (kcl q, 1) := fun I J' R' n' => by rw [shp_hi hd]; exact hs
  have sh1 : ∀ I J' R' n', shp tb0 (S, I, J', R', n') (d + 1) = (1, 15) := fun I J' R' n' => by rw [shp_hi (by omega)]; exact hs1
  refine i_X5_take_m37 ?_
  dsimp only [xI, xJ, xR, xS, xN]
  rw [hn]
  refine gd_in (by rw [sh]; exact isC_k q hq) ⟨fun c => e_X5_take_39_m37 (h0 ?_), fun c => s_dext (q := q) (sh _ _ _ _) (sh1 _ _ _ _) hq (rI_in (i_X5_charge_m37 (rV_in (e_X5_take_39_m37 ?_))))⟩
  · cases hb : bitc (F 37 11) k with
    | true => rfl
    | false => exact absurd ((mkB_and hk).mpr hb) c
  · have z := h1 ((mkB_and hk).mp c)
    have e : u2 F 37 11 (F 37 11 ||| mkB k) (d + 1) 14 = F (d + 1) 14 := by rw [u2_ne _ _ _ (by omega)]
    show K none (S, u2 (u2 F 37 11 (F 37 11 ||| mkB k)) 37 9 (F 37 9 + (if q = 4 then u2 F 37 11 (F 37 11 ||| mkB k) (d + 1) 14 else 0)), u2 J 37 6 (J 37 6 + (if q = 4 then u2 F 37 11 (F 37 11 ||| mkB k) (d + 1) 14 else 0 : Int32).toInt64), u2 R 37 1 (some d), nn)
    rw [e]; exact z
end Take
