/-! the law's loop -/
section Law
variable {L : Nat} {xs : Nat → Int32} {t n s h l k z : Nat} {X : AX} {K : Option AV → AX → Prop} {KX : String → AX → Prop} {l5 l6 l7 : Option AV}
theorem lvp {i : Nat} (hi : i < 6) (h6 : 6 * t + 6 ≤ L) (hL : L ≤ 3072) : vp_in (nI (6 * t) + nI i) L := by
  have e1 : (nI (6 * t)).toInt = (6 * t : Nat) := nI_toInt (by omega)
  have e2 : (nI i).toInt = i := nI_toInt (by omega)
  refine vp_in_iff.mpr ?_
  rw [n_add (by omega) (by omega), e1, e2]
  omega
/-- one call more -/
def Nxt (L : Nat) (xs : Nat → Int32) (t k z : Nat) (K : Option AV → AX → Prop) (KX : String → AX → Prop) : Prop := ∀ X' k' z' l5 l6 l7, (∃ n s h l, Rel L xs (t + 1) n s h l X') → k' ≤ k + 1000 → z' ≤ z + 10000 → r_L_law tb0 K KX 2331 [some (vR (some 0)), some (vR (some 4)), some (vR (some 42)), some (vR (some 91)), some (vI (nI (6 * t))), l5, l6, l7] [] X' k' z'
theorem law_wheel (H : Rel L xs t n s h l X) (ht : t < 512) (h6 : 6 * t + 6 ≤ L) (hL : L ≤ 3072) (hk : k + 1000 ≤ 601024) (hz : z + 10000 ≤ 7293034) (hN : Nxt L xs t k z K KX) : r_L_law tb0 K KX 196 [some (vR (some 0)), some (vR (some 4)), some (vR (some 42)), some (vR (some 91)), some (vI (nI (6 * t))), l5, l6, l7] [] X k z := by
  have hs0 : shp tb0 X 0 = (1, L) := H.1.1
  refine e_L_law_196 ?_
  rw [hs0]
  refine gd_in rfl ⟨lvp (i := 1) (by decide) h6 hL, gd_in rfl ⟨lvp (i := 2) (by decide) h6 hL, gd_in rfl ⟨lvp (i := 3) (by decide) h6 hL, gd_in ⟨by decide, by decide, by omega, by omega⟩ (op_wheel H (fun c X1 hs hm => rI_in ?_))⟩⟩⟩
  have hs1 : shp tb0 X1 0 = (1, L) := hs.1.trans H.1.1
  rw [hs1, hs.2]
  refine gd_in rfl ⟨lvp (i := 1) (by decide) h6 hL, gd_in rfl ⟨lvp (i := 2) (by decide) h6 hL, gd_in rfl ⟨lvp (i := 3) (by decide) h6 hL, gd_in ⟨by decide, by omega, by omega⟩ (hm _ _ (fun b X4 hF => rI_in (gd_in ⟨by decide, by omega, by omega⟩ (s_thrown (rI_in ⟨fun _ => ?_, fun w => absurd hF.2.1 w⟩)))))⟩⟩⟩
  exact e_L_law_256 ⟨fun _ => e_L_law_273 (hN X4 _ _ _ _ _ hF.1 (by omega) (by omega)), fun w => ⟨by unfold vp_in; decide, fun _ => e_L_law_273 (hN X4 _ _ _ _ _ hF.1 (by omega) (by omega)), fun w2 => absurd ((lg_cmp_eq _ _).mpr (hF.2.2 w)) w2⟩⟩
theorem law_row (H : Rel L xs t n s h l X) (ht : t < 512) (h6 : 6 * t + 6 ≤ L) (hL : L ≤ 3072) (hk : k + 1000 ≤ 601024) (hz : z + 10000 ≤ 7293034) (hN : Nxt L xs t k z K KX) : r_L_law tb0 K KX 276 [some (vR (some 0)), some (vR (some 4)), some (vR (some 42)), some (vR (some 91)), some (vI (nI (6 * t))), l5, l6, l7] [] X k z := by
  have hs0 : shp tb0 X 0 = (1, L) := H.1.1
  refine e_L_law_276 ?_
  rw [hs0]
  refine gd_in rfl ⟨lvp (i := 1) (by decide) h6 hL, gd_in rfl ⟨lvp (i := 2) (by decide) h6 hL, gd_in ⟨by decide, by decide, by omega, by omega⟩ (op_row H (fun c X1 hs hm => rI_in ?_))⟩⟩
  have hs1 : shp tb0 X1 0 = (1, L) := hs.1.trans H.1.1
  rw [hs1, hs.2]
  refine gd_in rfl ⟨lvp (i := 1) (by decide) h6 hL, gd_in rfl ⟨lvp (i := 2) (by decide) h6 hL, gd_in ⟨by decide, by omega, by omega⟩ (hm _ _ (fun b X4 hF => rI_in (gd_in ⟨by decide, by omega, by omega⟩ (s_thrown (rI_in ⟨fun _ => ?_, fun w => absurd hF.1.2.1 w⟩)))))⟩⟩
  refine e_L_law_324 ⟨fun _ => e_L_law_348 (hN X4 _ _ _ _ _ hF.1.1 (by omega) (by omega)), fun w => ⟨by unfold vp_in; decide, fun w2 => e_L_law_341 (e_L_law_342 ⟨fun _ => e_L_law_348 (hN X4 _ _ _ _ _ hF.1.1 (by omega) (by omega)), fun w3 => absurd ((lg_cmp_eq _ _).mpr ?_) w3⟩), fun w2 => e_L_law_342 ⟨fun _ => e_L_law_348 (hN X4 _ _ _ _ _ hF.1.1 (by omega) (by omega)), fun w3 => absurd ((lg_cmp_eq _ _).mpr ?_) w3⟩⟩⟩
  · refine (hF.1.2.2 w).trans ?_
    rw [w2]; decide
  · refine (hF.1.2.2 w).trans ?_
    rcases hF.2 with g | g
    · exact absurd g w2
    · rw [g]; decide
theorem law_pulse (H : Rel L xs t n s h l X) (ht : t < 512) (h6 : 6 * t + 6 ≤ L) (hL : L ≤ 3072) (hk : k + 1000 ≤ 601024) (hz : z + 10000 ≤ 7293034) (hN : Nxt L xs t k z K KX) : r_L_law tb0 K KX 351 [some (vR (some 0)), some (vR (some 4)), some (vR (some 42)), some (vR (some 91)), some (vI (nI (6 * t))), l5, l6, l7] [] X k z := by
  have hs0 : shp tb0 X 0 = (1, L) := H.1.1
  refine e_L_law_351 ?_
  rw [hs0]
  refine gd_in rfl ⟨lvp (i := 1) (by decide) h6 hL, gd_in rfl ⟨lvp (i := 2) (by decide) h6 hL, gd_in rfl ⟨lvp (i := 3) (by decide) h6 hL, gd_in ⟨by decide, by decide, by omega, by omega⟩ (op_pulse H (fun c X1 hs hm => rI_in ?_))⟩⟩⟩
  have hs1 : shp tb0 X1 0 = (1, L) := hs.1.trans H.1.1
  rw [hs1, hs.2]
  refine gd_in rfl ⟨lvp (i := 1) (by decide) h6 hL, gd_in rfl ⟨lvp (i := 2) (by decide) h6 hL, gd_in rfl ⟨lvp (i := 3) (by decide) h6 hL, gd_in ⟨by decide, by omega, by omega⟩ (hm _ _ (fun b X4 hF => rI_in (gd_in ⟨by decide, by omega, by omega⟩ (s_thrown (rI_in ⟨fun _ => ?_, fun w => absurd hF.2.1 w⟩)))))⟩⟩⟩
  exact e_L_law_411 ⟨fun _ => e_L_law_428 (hN X4 _ _ _ _ _ hF.1 (by omega) (by omega)), fun w => ⟨by unfold vp_in; decide, fun _ => e_L_law_428 (hN X4 _ _ _ _ _ hF.1 (by omega) (by omega)), fun w2 => absurd ((lg_cmp_eq _ _).mpr (hF.2.2 w)) w2⟩⟩
theorem law_tear (H : Rel L xs t n s h l X) (ht : t < 512) (h6 : 6 * t + 6 ≤ L) (hL : L ≤ 3072) (hk : k + 1000 ≤ 601024) (hz : z + 10000 ≤ 7293034) (hN : Nxt L xs t k z K KX) : r_L_law tb0 K KX 431 [some (vR (some 0)), some (vR (some 4)), some (vR (some 42)), some (vR (some 91)), some (vI (nI (6 * t))), l5, l6, l7] [] X k z := by
  have hs0 : shp tb0 X 0 = (1, L) := H.1.1
  refine e_L_law_431 ?_
  rw [hs0]
  refine gd_in rfl ⟨lvp (i := 1) (by decide) h6 hL, gd_in rfl ⟨lvp (i := 2) (by decide) h6 hL, gd_in ⟨by decide, by decide, by omega, by omega⟩ (op_tear H (fun c X1 hs hm => rI_in ?_))⟩⟩
  have hs1 : shp tb0 X1 0 = (1, L) := hs.1.trans H.1.1
  rw [hs1, hs.2]
  refine gd_in rfl ⟨lvp (i := 1) (by decide) h6 hL, gd_in rfl ⟨lvp (i := 2) (by decide) h6 hL, gd_in ⟨by decide, by omega, by omega⟩ (hm _ _ (fun b X4 hF => rI_in (gd_in ⟨by decide, by omega, by omega⟩ (s_thrown (rI_in ⟨fun _ => ?_, fun w => absurd hF.2.1 w⟩)))))⟩⟩
  exact e_L_law_479 ⟨fun _ => e_L_law_496 (hN X4 _ _ _ _ _ hF.1 (by omega) (by omega)), fun w => ⟨by unfold vp_in; decide, fun _ => e_L_law_496 (hN X4 _ _ _ _ _ hF.1 (by omega) (by omega)), fun w2 => absurd ((lg_cmp_eq _ _).mpr (hF.2.2 w)) w2⟩⟩
theorem law_pulses (H : Rel L xs t n s h l X) (ht : t < 512) (h6 : 6 * t + 6 ≤ L) (hL : L ≤ 3072) (hk : k + 1000 ≤ 601024) (hz : z + 10000 ≤ 7293034) (hN : Nxt L xs t k z K KX) : r_L_law tb0 K KX 499 [some (vR (some 0)), some (vR (some 4)), some (vR (some 42)), some (vR (some 91)), some (vI (nI (6 * t))), l5, l6, l7] [] X k z := by
  have hs0 : shp tb0 X 0 = (1, L) := H.1.1
  refine e_L_law_499 ?_
  rw [hs0]
  refine gd_in rfl ⟨lvp (i := 1) (by decide) h6 hL, gd_in rfl ⟨lvp (i := 2) (by decide) h6 hL, gd_in ⟨by decide, by decide, by omega, by omega⟩ (op_pulses H (fun c X1 hs hm => rI_in ?_))⟩⟩
  have hs1 : shp tb0 X1 0 = (1, L) := hs.1.trans H.1.1
  rw [hs1, hs.2]
  refine gd_in rfl ⟨lvp (i := 1) (by decide) h6 hL, gd_in rfl ⟨lvp (i := 2) (by decide) h6 hL, gd_in ⟨by decide, by omega, by omega⟩ (hm _ _ (fun b X4 hF => rI_in (gd_in ⟨by decide, by omega, by omega⟩ (s_thrown (rI_in ⟨fun _ => ?_, fun w => absurd hF.2.1 w⟩)))))⟩⟩
  exact e_L_law_547 ⟨fun _ => e_L_law_564 (hN X4 _ _ _ _ _ hF.1 (by omega) (by omega)), fun w => ⟨by unfold vp_in; decide, fun _ => e_L_law_564 (hN X4 _ _ _ _ _ hF.1 (by omega) (by omega)), fun w2 => absurd ((lg_cmp_eq _ _).mpr (hF.2.2 w)) w2⟩⟩
theorem law_tariff (H : Rel L xs t n s h l X) (ht : t < 512) (h6 : 6 * t + 6 ≤ L) (hL : L ≤ 3072) (hk : k + 1000 ≤ 601024) (hz : z + 10000 ≤ 7293034) (hN : Nxt L xs t k z K KX) : r_L_law tb0 K KX 567 [some (vR (some 0)), some (vR (some 4)), some (vR (some 42)), some (vR (some 91)), some (vI (nI (6 * t))), l5, l6, l7] [] X k z := by
  have hs0 : shp tb0 X 0 = (1, L) := H.1.1
  refine e_L_law_567 ?_
  rw [hs0]
  refine gd_in rfl ⟨lvp (i := 1) (by decide) h6 hL, gd_in ⟨by decide, by decide, by omega, by omega⟩ (op_tariff H (fun c X1 hs hm => rI_in ?_))⟩
  have hs1 : shp tb0 X1 0 = (1, L) := hs.1.trans H.1.1
  rw [hs1, hs.2]
  refine gd_in rfl ⟨lvp (i := 1) (by decide) h6 hL, gd_in ⟨by decide, by omega, by omega⟩ (hm _ _ (fun b X4 hF => rI_in (gd_in ⟨by decide, by omega, by omega⟩ (s_thrown (rI_in ⟨fun _ => ?_, fun w => absurd hF.2.1 w⟩)))))⟩
  exact e_L_law_603 ⟨fun _ => e_L_law_620 (hN X4 _ _ _ _ _ hF.1 (by omega) (by omega)), fun w => ⟨by unfold vp_in; decide, fun _ => e_L_law_620 (hN X4 _ _ _ _ _ hF.1 (by omega) (by omega)), fun w2 => absurd ((lg_cmp_eq _ _).mpr (hF.2.2 w)) w2⟩⟩
theorem law_set (H : Rel L xs t n s h l X) (ht : t < 512) (h6 : 6 * t + 6 ≤ L) (hL : L ≤ 3072) (hk : k + 1000 ≤ 601024) (hz : z + 10000 ≤ 7293034) (hN : Nxt L xs t k z K KX) : r_L_law tb0 K KX 623 [some (vR (some 0)), some (vR (some 4)), some (vR (some 42)), some (vR (some 91)), some (vI (nI (6 * t))), l5, l6, l7] [] X k z := by
  have hs0 : shp tb0 X 0 = (1, L) := H.1.1
  refine e_L_law_623 ?_
  rw [hs0]
  refine gd_in rfl ⟨lvp (i := 1) (by decide) h6 hL, gd_in rfl ⟨lvp (i := 2) (by decide) h6 hL, gd_in rfl ⟨lvp (i := 3) (by decide) h6 hL, gd_in ⟨by decide, by decide, by omega, by omega⟩ (op_set H (fun c X1 hs hm => rI_in ?_))⟩⟩⟩
  have hs1 : shp tb0 X1 0 = (1, L) := hs.1.trans H.1.1
  rw [hs1, hs.2]
  refine gd_in rfl ⟨lvp (i := 1) (by decide) h6 hL, gd_in rfl ⟨lvp (i := 2) (by decide) h6 hL, gd_in rfl ⟨lvp (i := 3) (by decide) h6 hL, gd_in ⟨by decide, by omega, by omega⟩ (hm _ _ (fun b X4 hF => rI_in (gd_in ⟨by decide, by omega, by omega⟩ (s_thrown (rI_in ⟨fun _ => ?_, fun w => absurd hF.2.1 w⟩)))))⟩⟩⟩
  exact e_L_law_683 ⟨fun _ => e_L_law_700 (hN X4 _ _ _ _ _ hF.1 (by omega) (by omega)), fun w => ⟨by unfold vp_in; decide, fun _ => e_L_law_700 (hN X4 _ _ _ _ _ hF.1 (by omega) (by omega)), fun w2 => absurd ((lg_cmp_eq _ _).mpr (hF.2.2 w)) w2⟩⟩
theorem law_number (H : Rel L xs t n s h l X) (ht : t < 512) (h6 : 6 * t + 6 ≤ L) (hL : L ≤ 3072) (hk : k + 1000 ≤ 601024) (hz : z + 10000 ≤ 7293034) (hN : Nxt L xs t k z K KX) : r_L_law tb0 K KX 703 [some (vR (some 0)), some (vR (some 4)), some (vR (some 42)), some (vR (some 91)), some (vI (nI (6 * t))), l5, l6, l7] [] X k z := by
  have hs0 : shp tb0 X 0 = (1, L) := H.1.1
  refine e_L_law_703 ?_
  rw [hs0]
  refine gd_in rfl ⟨lvp (i := 1) (by decide) h6 hL, gd_in rfl ⟨lvp (i := 2) (by decide) h6 hL, gd_in ⟨by decide, by decide, by omega, by omega⟩ (op_number H (fun c X1 hs hm => rI_in ?_))⟩⟩
  have hs1 : shp tb0 X1 0 = (1, L) := hs.1.trans H.1.1
  rw [hs1, hs.2]
  refine gd_in rfl ⟨lvp (i := 1) (by decide) h6 hL, gd_in rfl ⟨lvp (i := 2) (by decide) h6 hL, gd_in ⟨by decide, by omega, by omega⟩ (hm _ _ (fun b X4 hF => rI_in (gd_in ⟨by decide, by omega, by omega⟩ (s_thrown (rI_in ⟨fun _ => ?_, fun w => absurd hF.2.1 w⟩)))))⟩⟩
  exact e_L_law_751 ⟨fun _ => e_L_law_768 (hN X4 _ _ _ _ _ hF.1 (by omega) (by omega)), fun w => ⟨by unfold vp_in; decide, fun _ => e_L_law_768 (hN X4 _ _ _ _ _ hF.1 (by omega) (by omega)), fun w2 => absurd ((lg_cmp_eq _ _).mpr (hF.2.2 w)) w2⟩⟩
theorem law_slot (H : Rel L xs t n s h l X) (ht : t < 512) (h6 : 6 * t + 6 ≤ L) (hL : L ≤ 3072) (hk : k + 1000 ≤ 601024) (hz : z + 10000 ≤ 7293034) (hN : Nxt L xs t k z K KX) : r_L_law tb0 K KX 771 [some (vR (some 0)), some (vR (some 4)), some (vR (some 42)), some (vR (some 91)), some (vI (nI (6 * t))), l5, l6, l7] [] X k z := by
  have hs0 : shp tb0 X 0 = (1, L) := H.1.1
  refine e_L_law_771 ?_
  rw [hs0]
  refine gd_in rfl ⟨lvp (i := 1) (by decide) h6 hL, gd_in rfl ⟨lvp (i := 2) (by decide) h6 hL, gd_in rfl ⟨lvp (i := 3) (by decide) h6 hL, gd_in ⟨by decide, by decide, by omega, by omega⟩ (op_slot H (fun c X1 hs hm => rI_in ?_))⟩⟩⟩
  have hs1 : shp tb0 X1 0 = (1, L) := hs.1.trans H.1.1
  rw [hs1, hs.2]
  refine gd_in rfl ⟨lvp (i := 1) (by decide) h6 hL, gd_in rfl ⟨lvp (i := 2) (by decide) h6 hL, gd_in rfl ⟨lvp (i := 3) (by decide) h6 hL, gd_in ⟨by decide, by omega, by omega⟩ (hm _ _ (fun b X4 hF => rI_in (gd_in ⟨by decide, by omega, by omega⟩ (s_thrown (rI_in ⟨fun _ => ?_, fun w => absurd hF.2.1 w⟩)))))⟩⟩⟩
  exact e_L_law_831 ⟨fun _ => e_L_law_848 (hN X4 _ _ _ _ _ hF.1 (by omega) (by omega)), fun w => ⟨by unfold vp_in; decide, fun _ => e_L_law_848 (hN X4 _ _ _ _ _ hF.1 (by omega) (by omega)), fun w2 => absurd ((lg_cmp_eq _ _).mpr (hF.2.2 w)) w2⟩⟩
theorem law_kind (H : Rel L xs t n s h l X) (ht : t < 512) (h6 : 6 * t + 6 ≤ L) (hL : L ≤ 3072) (hk : k + 1000 ≤ 601024) (hz : z + 10000 ≤ 7293034) (hN : Nxt L xs t k z K KX) : r_L_law tb0 K KX 851 [some (vR (some 0)), some (vR (some 4)), some (vR (some 42)), some (vR (some 91)), some (vI (nI (6 * t))), l5, l6, l7] [] X k z := by
  have hs0 : shp tb0 X 0 = (1, L) := H.1.1
  refine e_L_law_851 ?_
  rw [hs0]
  refine gd_in rfl ⟨lvp (i := 1) (by decide) h6 hL, gd_in ⟨by decide, by decide, by omega, by omega⟩ (op_kind H (fun c X1 hs hm => rI_in ?_))⟩
  have hs1 : shp tb0 X1 0 = (1, L) := hs.1.trans H.1.1
  rw [hs1, hs.2]
  refine gd_in rfl ⟨lvp (i := 1) (by decide) h6 hL, gd_in ⟨by decide, by omega, by omega⟩ (hm _ _ (fun b X4 hF => rI_in (gd_in ⟨by decide, by omega, by omega⟩ (s_thrown (rI_in ⟨fun _ => ?_, fun w => absurd hF.2.1 w⟩)))))⟩
  exact e_L_law_887 ⟨fun _ => e_L_law_904 (hN X4 _ _ _ _ _ hF.1 (by omega) (by omega)), fun w => ⟨by unfold vp_in; decide, fun _ => e_L_law_904 (hN X4 _ _ _ _ _ hF.1 (by omega) (by omega)), fun w2 => absurd ((lg_cmp_eq _ _).mpr (hF.2.2 w)) w2⟩⟩
theorem law_seal (H : Rel L xs t n s h l X) (ht : t < 512) (h6 : 6 * t + 6 ≤ L) (hL : L ≤ 3072) (hk : k + 1000 ≤ 601024) (hz : z + 10000 ≤ 7293034) (hN : Nxt L xs t k z K KX) : r_L_law tb0 K KX 907 [some (vR (some 0)), some (vR (some 4)), some (vR (some 42)), some (vR (some 91)), some (vI (nI (6 * t))), l5, l6, l7] [] X k z := by
  refine e_L_law_907 (gd_in ⟨by decide, by omega, by omega⟩ (op_seal (by omega) H (fun a X1 hs hm => rI_in (gd_in ⟨by decide, by omega, by omega⟩ (hm _ _ (fun b X4 hF => rI_in ⟨fun _ => hN X4 _ _ _ _ _ hF.1 (by omega) (by omega), fun w => absurd hF.2.symm w⟩))))))
theorem law_breaks (H : Rel L xs t n s h l X) (ht : t < 512) (h6 : 6 * t + 6 ≤ L) (hL : L ≤ 3072) (hk : k + 1000 ≤ 601024) (hz : z + 10000 ≤ 7293034) (hN : Nxt L xs t k z K KX) : r_L_law tb0 K KX 920 [some (vR (some 0)), some (vR (some 4)), some (vR (some 42)), some (vR (some 91)), some (vI (nI (6 * t))), l5, l6, l7] [] X k z := by
  have hs0 : shp tb0 X 0 = (1, L) := H.1.1
  refine e_L_law_920 ?_
  rw [hs0]
  refine gd_in rfl ⟨lvp (i := 1) (by decide) h6 hL, gd_in ⟨by decide, by decide, by omega, by omega⟩ (op_breaks H (fun c X1 hs hm => rI_in ?_))⟩
  have hs1 : shp tb0 X1 0 = (1, L) := hs.1.trans H.1.1
  rw [hs1, hs.2]
  refine gd_in rfl ⟨lvp (i := 1) (by decide) h6 hL, gd_in ⟨by decide, by omega, by omega⟩ (hm _ _ (fun b X4 hF => rI_in (gd_in ⟨by decide, by omega, by omega⟩ (s_thrown (rI_in ⟨fun _ => ?_, fun w => absurd hF.1.2.1 w⟩)))))⟩
  refine e_L_law_956 ⟨fun _ => e_L_law_980 (hN X4 _ _ _ _ _ hF.1.1 (by omega) (by omega)), fun w => ⟨by unfold vp_in; decide, fun w2 => e_L_law_973 (e_L_law_974 ⟨fun _ => e_L_law_980 (hN X4 _ _ _ _ _ hF.1.1 (by omega) (by omega)), fun w3 => absurd ((lg_cmp_eq _ _).mpr ?_) w3⟩), fun w2 => e_L_law_974 ⟨fun _ => e_L_law_980 (hN X4 _ _ _ _ _ hF.1.1 (by omega) (by omega)), fun w3 => absurd ((lg_cmp_eq _ _).mpr ?_) w3⟩⟩⟩
  · refine (hF.1.2.2 w).trans ?_
    rw [w2]; decide
  · refine (hF.1.2.2 w).trans ?_
    rcases hF.2 with g | g
    · exact absurd g w2
    · rw [g]; decide
theorem law_blow (H : Rel L xs t n s h l X) (ht : t < 512) (h6 : 6 * t + 6 ≤ L) (hL : L ≤ 3072) (hk : k + 1000 ≤ 601024) (hz : z + 10000 ≤ 7293034) (hN : Nxt L xs t k z K KX) : r_L_law tb0 K KX 983 [some (vR (some 0)), some (vR (some 4)), some (vR (some 42)), some (vR (some 91)), some (vI (nI (6 * t))), l5, l6, l7] [] X k z := by
  have hs0 : shp tb0 X 0 = (1, L) := H.1.1
  refine e_L_law_983 ?_
  rw [hs0]
  refine gd_in rfl ⟨lvp (i := 1) (by decide) h6 hL, gd_in ⟨by decide, by decide, by omega, by omega⟩ (op_blow H (fun c X1 hs hm => rI_in ?_))⟩
  have hs1 : shp tb0 X1 0 = (1, L) := hs.1.trans H.1.1
  rw [hs1, hs.2]
  refine gd_in rfl ⟨lvp (i := 1) (by decide) h6 hL, gd_in ⟨by decide, by omega, by omega⟩ (hm _ _ (fun b X4 hF => rI_in (gd_in ⟨by decide, by omega, by omega⟩ (s_thrown (rI_in ⟨fun _ => ?_, fun w => absurd hF.1.2.1 w⟩)))))⟩
  refine e_L_law_1019 ⟨fun _ => e_L_law_1043 (hN X4 _ _ _ _ _ hF.1.1 (by omega) (by omega)), fun w => ⟨by unfold vp_in; decide, fun w2 => e_L_law_1036 (e_L_law_1037 ⟨fun _ => e_L_law_1043 (hN X4 _ _ _ _ _ hF.1.1 (by omega) (by omega)), fun w3 => absurd ((lg_cmp_eq _ _).mpr ?_) w3⟩), fun w2 => e_L_law_1037 ⟨fun _ => e_L_law_1043 (hN X4 _ _ _ _ _ hF.1.1 (by omega) (by omega)), fun w3 => absurd ((lg_cmp_eq _ _).mpr ?_) w3⟩⟩⟩
  · refine (hF.1.2.2 w).trans ?_
    rw [w2]; decide
  · refine (hF.1.2.2 w).trans ?_
    rcases hF.2 with g | g
    · exact absurd g w2
    · rw [g]; decide
theorem law_sets (H : Rel L xs t n s h l X) (ht : t < 512) (h6 : 6 * t + 6 ≤ L) (hL : L ≤ 3072) (hk : k + 1000 ≤ 601024) (hz : z + 10000 ≤ 7293034) (hN : Nxt L xs t k z K KX) : r_L_law tb0 K KX 1046 [some (vR (some 0)), some (vR (some 4)), some (vR (some 42)), some (vR (some 91)), some (vI (nI (6 * t))), l5, l6, l7] [] X k z := by
  have hs0 : shp tb0 X 0 = (1, L) := H.1.1
  refine e_L_law_1046 ?_
  rw [hs0]
  refine gd_in rfl ⟨lvp (i := 1) (by decide) h6 hL, gd_in ⟨by decide, by decide, by omega, by omega⟩ (op_sets H (fun c X1 hs hm => rI_in ?_))⟩
  have hs1 : shp tb0 X1 0 = (1, L) := hs.1.trans H.1.1
  rw [hs1, hs.2]
  refine gd_in rfl ⟨lvp (i := 1) (by decide) h6 hL, gd_in ⟨by decide, by omega, by omega⟩ (hm _ _ (fun b X4 hF => rI_in (gd_in ⟨by decide, by omega, by omega⟩ (s_thrown (rI_in ⟨fun _ => ?_, fun w => absurd hF.1.2.1 w⟩)))))⟩
  refine e_L_law_1082 ⟨fun _ => e_L_law_1106 (hN X4 _ _ _ _ _ hF.1.1 (by omega) (by omega)), fun w => ⟨by unfold vp_in; decide, fun w2 => e_L_law_1099 (e_L_law_1100 ⟨fun _ => e_L_law_1106 (hN X4 _ _ _ _ _ hF.1.1 (by omega) (by omega)), fun w3 => absurd ((lg_cmp_eq _ _).mpr ?_) w3⟩), fun w2 => e_L_law_1100 ⟨fun _ => e_L_law_1106 (hN X4 _ _ _ _ _ hF.1.1 (by omega) (by omega)), fun w3 => absurd ((lg_cmp_eq _ _).mpr ?_) w3⟩⟩⟩
  · refine (hF.1.2.2 w).trans ?_
    rw [w2]; decide
  · refine (hF.1.2.2 w).trans ?_
    rcases hF.2 with g | g
    · exact absurd g w2
    · rw [g]; decide
theorem law_since (H : Rel L xs t n s h l X) (ht : t < 512) (h6 : 6 * t + 6 ≤ L) (hL : L ≤ 3072) (hk : k + 1000 ≤ 601024) (hz : z + 10000 ≤ 7293034) (hN : Nxt L xs t k z K KX) : r_L_law tb0 K KX 1109 [some (vR (some 0)), some (vR (some 4)), some (vR (some 42)), some (vR (some 91)), some (vI (nI (6 * t))), l5, l6, l7] [] X k z := by
  have hs0 : shp tb0 X 0 = (1, L) := H.1.1
  refine e_L_law_1109 ?_
  rw [hs0]
  refine gd_in rfl ⟨lvp (i := 1) (by decide) h6 hL, gd_in ⟨by decide, by decide, by omega, by omega⟩ (op_since H (fun c X1 hs hm => rI_in ?_))⟩
  have hs1 : shp tb0 X1 0 = (1, L) := hs.1.trans H.1.1
  rw [hs1, hs.2]
  refine gd_in rfl ⟨lvp (i := 1) (by decide) h6 hL, gd_in ⟨by decide, by omega, by omega⟩ (hm _ _ (fun b X4 hF => rI_in (gd_in ⟨by decide, by omega, by omega⟩ (s_thrown (rI_in ⟨fun _ => ?_, fun w => absurd hF.2.1 w⟩)))))⟩
  exact e_L_law_1145 ⟨fun _ => e_L_law_1162 (hN X4 _ _ _ _ _ hF.1 (by omega) (by omega)), fun w => ⟨by unfold vp_in; decide, fun _ => e_L_law_1162 (hN X4 _ _ _ _ _ hF.1 (by omega) (by omega)), fun w2 => absurd ((lg_cmp_eq _ _).mpr (hF.2.2 w)) w2⟩⟩
theorem law_hire (H : Rel L xs t n s h l X) (ht : t < 512) (h6 : 6 * t + 6 ≤ L) (hL : L ≤ 3072) (hk : k + 1000 ≤ 601024) (hz : z + 10000 ≤ 7293034) (hN : Nxt L xs t k z K KX) : r_L_law tb0 K KX 1165 [some (vR (some 0)), some (vR (some 4)), some (vR (some 42)), some (vR (some 91)), some (vI (nI (6 * t))), l5, l6, l7] [] X k z := by
  have hs0 : shp tb0 X 0 = (1, L) := H.1.1
  refine e_L_law_1165 ?_
  rw [hs0]
  refine gd_in rfl ⟨lvp (i := 1) (by decide) h6 hL, gd_in rfl ⟨lvp (i := 2) (by decide) h6 hL, gd_in rfl ⟨lvp (i := 3) (by decide) h6 hL, gd_in rfl ⟨lvp (i := 4) (by decide) h6 hL, gd_in ⟨by decide, by decide, by omega, by omega⟩ (op_hire (by omega) H (fun c X1 hs hm => rI_in ?_))⟩⟩⟩⟩
  have hs1 : shp tb0 X1 0 = (1, L) := hs.1.trans H.1.1
  rw [hs1, hs.2]
  refine gd_in rfl ⟨lvp (i := 1) (by decide) h6 hL, gd_in rfl ⟨lvp (i := 2) (by decide) h6 hL, gd_in rfl ⟨lvp (i := 3) (by decide) h6 hL, gd_in rfl ⟨lvp (i := 4) (by decide) h6 hL, gd_in ⟨by decide, by omega, by omega⟩ (hm _ _ (fun b X4 hF => rI_in (gd_in ⟨by decide, by omega, by omega⟩ (s_thrown (rI_in ⟨fun _ => ?_, fun w => absurd hF.2.1 w⟩)))))⟩⟩⟩⟩
  exact e_L_law_1237 ⟨fun _ => e_L_law_1254 (hN X4 _ _ _ _ _ hF.1 (by omega) (by omega)), fun w => ⟨by unfold vp_in; decide, fun _ => e_L_law_1254 (hN X4 _ _ _ _ _ hF.1 (by omega) (by omega)), fun w2 => absurd ((lg_cmp_eq _ _).mpr (hF.2.2 w)) w2⟩⟩
theorem law_second (H : Rel L xs t n s h l X) (ht : t < 512) (h6 : 6 * t + 6 ≤ L) (hL : L ≤ 3072) (hk : k + 1000 ≤ 601024) (hz : z + 10000 ≤ 7293034) (hN : Nxt L xs t k z K KX) : r_L_law tb0 K KX 1257 [some (vR (some 0)), some (vR (some 4)), some (vR (some 42)), some (vR (some 91)), some (vI (nI (6 * t))), l5, l6, l7] [] X k z := by
  refine e_L_law_1257 ?_
  refine gd_in ⟨by decide, by decide, by omega, by omega⟩ (op_second (by omega) H (fun c X1 hs hm => rI_in ?_))
  refine gd_in ⟨by decide, by omega, by omega⟩ (hm _ _ (fun b X4 hF => rI_in (gd_in ⟨by decide, by omega, by omega⟩ (s_thrown (rI_in ⟨fun _ => ?_, fun w => absurd hF.2.1 w⟩)))))
  exact e_L_law_1281 ⟨fun _ => e_L_law_1298 (hN X4 _ _ _ _ _ hF.1 (by omega) (by omega)), fun w => ⟨by unfold vp_in; decide, fun _ => e_L_law_1298 (hN X4 _ _ _ _ _ hF.1 (by omega) (by omega)), fun w2 => absurd ((lg_cmp_eq _ _).mpr (hF.2.2 w)) w2⟩⟩
theorem law_run (H : Rel L xs t n s h l X) (ht : t < 512) (h6 : 6 * t + 6 ≤ L) (hL : L ≤ 3072) (hk : k + 1000 ≤ 601024) (hz : z + 10000 ≤ 7293034) (hN : Nxt L xs t k z K KX) : r_L_law tb0 K KX 1301 [some (vR (some 0)), some (vR (some 4)), some (vR (some 42)), some (vR (some 91)), some (vI (nI (6 * t))), l5, l6, l7] [] X k z := by
  have hs0 : shp tb0 X 0 = (1, L) := H.1.1
  refine e_L_law_1301 ?_
  rw [hs0]
  refine gd_in rfl ⟨lvp (i := 1) (by decide) h6 hL, gd_in ⟨by decide, by decide, by omega, by omega⟩ (op_run (by omega) H (fun c X1 hs hm => rI_in ?_))⟩
  have hs1 : shp tb0 X1 0 = (1, L) := hs.1.trans H.1.1
  rw [hs1, hs.2]
  refine gd_in rfl ⟨lvp (i := 1) (by decide) h6 hL, gd_in ⟨by decide, by omega, by omega⟩ (hm _ _ (fun b X4 hF => rI_in (gd_in ⟨by decide, by omega, by omega⟩ (s_thrown (rI_in ⟨fun _ => ?_, fun w => absurd hF.2.1 w⟩)))))⟩
  exact e_L_law_1337 ⟨fun _ => e_L_law_1354 (hN X4 _ _ _ _ _ hF.1 (by omega) (by omega)), fun w => ⟨by unfold vp_in; decide, fun _ => e_L_law_1354 (hN X4 _ _ _ _ _ hF.1 (by omega) (by omega)), fun w2 => absurd ((lg_cmp_eq _ _).mpr (hF.2.2 w)) w2⟩⟩
theorem law_hand (H : Rel L xs t n s h l X) (ht : t < 512) (h6 : 6 * t + 6 ≤ L) (hL : L ≤ 3072) (hk : k + 1000 ≤ 601024) (hz : z + 10000 ≤ 7293034) (hN : Nxt L xs t k z K KX) : r_L_law tb0 K KX 1357 [some (vR (some 0)), some (vR (some 4)), some (vR (some 42)), some (vR (some 91)), some (vI (nI (6 * t))), l5, l6, l7] [] X k z := by
  have hs0 : shp tb0 X 0 = (1, L) := H.1.1
  refine e_L_law_1357 ?_
  rw [hs0]
  refine gd_in rfl ⟨lvp (i := 1) (by decide) h6 hL, gd_in ⟨by decide, by decide, by omega, by omega⟩ (op_hand (by omega) H (fun c X1 hs hm => rI_in ?_))⟩
  have hs1 : shp tb0 X1 0 = (1, L) := hs.1.trans H.1.1
  rw [hs1, hs.2]
  refine gd_in rfl ⟨lvp (i := 1) (by decide) h6 hL, gd_in ⟨by decide, by omega, by omega⟩ (hm _ _ (fun b X4 hF => rI_in (gd_in ⟨by decide, by omega, by omega⟩ (s_thrown (rI_in ⟨fun _ => ?_, fun w => absurd hF.1.2.1 w⟩)))))⟩
  refine e_L_law_1393 ⟨fun _ => e_L_law_1417 (hN X4 _ _ _ _ _ hF.1.1 (by omega) (by omega)), fun w => ⟨by unfold vp_in; decide, fun w2 => e_L_law_1410 (e_L_law_1411 ⟨fun _ => e_L_law_1417 (hN X4 _ _ _ _ _ hF.1.1 (by omega) (by omega)), fun w3 => absurd ((lg_cmp_eq _ _).mpr ?_) w3⟩), fun w2 => e_L_law_1411 ⟨fun _ => e_L_law_1417 (hN X4 _ _ _ _ _ hF.1.1 (by omega) (by omega)), fun w3 => absurd ((lg_cmp_eq _ _).mpr ?_) w3⟩⟩⟩
  · refine (hF.1.2.2 w).trans ?_
    rw [w2]; decide
  · refine (hF.1.2.2 w).trans ?_
    rcases hF.2 with g | g
    · exact absurd g w2
    · rw [g]; decide
theorem law_extra (H : Rel L xs t n s h l X) (ht : t < 512) (h6 : 6 * t + 6 ≤ L) (hL : L ≤ 3072) (hk : k + 1000 ≤ 601024) (hz : z + 10000 ≤ 7293034) (hN : Nxt L xs t k z K KX) : r_L_law tb0 K KX 1420 [some (vR (some 0)), some (vR (some 4)), some (vR (some 42)), some (vR (some 91)), some (vI (nI (6 * t))), l5, l6, l7] [] X k z := by
  have hs0 : shp tb0 X 0 = (1, L) := H.1.1
  refine e_L_law_1420 ?_
  rw [hs0]
  refine gd_in rfl ⟨lvp (i := 1) (by decide) h6 hL, gd_in ⟨by decide, by decide, by omega, by omega⟩ (op_extra (by omega) H (fun c X1 hs hm => rI_in ?_))⟩
  have hs1 : shp tb0 X1 0 = (1, L) := hs.1.trans H.1.1
  rw [hs1, hs.2]
  refine gd_in rfl ⟨lvp (i := 1) (by decide) h6 hL, gd_in ⟨by decide, by omega, by omega⟩ (hm _ _ (fun b X4 hF => rI_in (gd_in ⟨by decide, by omega, by omega⟩ (s_thrown (rI_in ⟨fun _ => ?_, fun w => absurd hF.2.1 w⟩)))))⟩
  exact e_L_law_1456 ⟨fun _ => e_L_law_1473 (hN X4 _ _ _ _ _ hF.1 (by omega) (by omega)), fun w => ⟨by unfold vp_in; decide, fun _ => e_L_law_1473 (hN X4 _ _ _ _ _ hF.1 (by omega) (by omega)), fun w2 => absurd ((lg_cmp_eq _ _).mpr (hF.2.2 w)) w2⟩⟩
theorem law_end (H : Rel L xs t n s h l X) (ht : t < 512) (h6 : 6 * t + 6 ≤ L) (hL : L ≤ 3072) (hk : k + 1000 ≤ 601024) (hz : z + 10000 ≤ 7293034) (hN : Nxt L xs t k z K KX) : r_L_law tb0 K KX 1476 [some (vR (some 0)), some (vR (some 4)), some (vR (some 42)), some (vR (some 91)), some (vI (nI (6 * t))), l5, l6, l7] [] X k z := by
  have hs0 : shp tb0 X 0 = (1, L) := H.1.1
  refine e_L_law_1476 ?_
  rw [hs0]
  refine gd_in rfl ⟨lvp (i := 1) (by decide) h6 hL, gd_in ⟨by decide, by decide, by omega, by omega⟩ (op_end (by omega) H (fun c X1 hs hm => rI_in ?_))⟩
  have hs1 : shp tb0 X1 0 = (1, L) := hs.1.trans H.1.1
  rw [hs1, hs.2]
  refine gd_in rfl ⟨lvp (i := 1) (by decide) h6 hL, gd_in ⟨by decide, by omega, by omega⟩ (hm _ _ (fun b X4 hF => rL_in (gd_in ⟨by decide, by omega, by omega⟩ (s_thrown (rI_in ⟨fun _ => ?_, fun w => absurd hF.2.1 w⟩)))))⟩
  exact e_L_law_1512 ⟨fun _ => e_L_law_1528 (hN X4 _ _ _ _ _ hF.1 (by omega) (by omega)), fun w => ⟨by unfold vp_in; decide, fun _ => e_L_law_1528 (hN X4 _ _ _ _ _ hF.1 (by omega) (by omega)), fun w2 => absurd ((lg_cmp_eq _ _).mpr (hF.2.2 w)) w2⟩⟩
theorem law_pay (H : Rel L xs t n s h l X) (ht : t < 512) (h6 : 6 * t + 6 ≤ L) (hL : L ≤ 3072) (hk : k + 1000 ≤ 601024) (hz : z + 10000 ≤ 7293034) (hN : Nxt L xs t k z K KX) : r_L_law tb0 K KX 1531 [some (vR (some 0)), some (vR (some 4)), some (vR (some 42)), some (vR (some 91)), some (vI (nI (6 * t))), l5, l6, l7] [] X k z := by
  have hs0 : shp tb0 X 0 = (1, L) := H.1.1
  refine e_L_law_1531 ?_
  rw [hs0]
  refine gd_in rfl ⟨lvp (i := 1) (by decide) h6 hL, gd_in rfl ⟨lvp (i := 2) (by decide) h6 hL, gd_in ⟨by decide, by decide, by omega, by omega⟩ (op_pay (by omega) H (fun c X1 hs hm => rI_in ?_))⟩⟩
  have hs1 : shp tb0 X1 0 = (1, L) := hs.1.trans H.1.1
  rw [hs1, hs.2]
  refine gd_in rfl ⟨lvp (i := 1) (by decide) h6 hL, gd_in rfl ⟨lvp (i := 2) (by decide) h6 hL, gd_in ⟨by decide, by omega, by omega⟩ (hm _ _ (fun b X4 hF => rL_in (gd_in ⟨by decide, by omega, by omega⟩ (s_thrown (rI_in ⟨fun _ => ?_, fun w => absurd hF.2.1 w⟩)))))⟩⟩
  exact e_L_law_1599 ⟨fun _ => e_L_law_1615 (hN X4 _ _ _ _ _ hF.1 (by omega) (by omega)), fun w => ⟨by unfold vp_in; decide, fun _ => e_L_law_1615 (hN X4 _ _ _ _ _ hF.1 (by omega) (by omega)), fun w2 => absurd ((lg_cmp_eq _ _).mpr (hF.2.2 w)) w2⟩⟩
theorem law_fare (H : Rel L xs t n s h l X) (ht : t < 512) (h6 : 6 * t + 6 ≤ L) (hL : L ≤ 3072) (hk : k + 1000 ≤ 601024) (hz : z + 10000 ≤ 7293034) (hN : Nxt L xs t k z K KX) : r_L_law tb0 K KX 1618 [some (vR (some 0)), some (vR (some 4)), some (vR (some 42)), some (vR (some 91)), some (vI (nI (6 * t))), l5, l6, l7] [] X k z := by
  refine e_L_law_1618 ?_
  refine gd_in ⟨by decide, by decide, by omega, by omega⟩ (op_fare (by omega) H (fun c X1 hs hm => rI_in ?_))
  refine gd_in ⟨by decide, by omega, by omega⟩ (hm _ _ (fun b X4 hF => rL_in (gd_in ⟨by decide, by omega, by omega⟩ (s_thrown (rI_in ⟨fun _ => ?_, fun w => absurd hF.2.1 w⟩)))))
  exact e_L_law_1642 ⟨fun _ => e_L_law_1658 (hN X4 _ _ _ _ _ hF.1 (by omega) (by omega)), fun w => ⟨by unfold vp_in; decide, fun _ => e_L_law_1658 (hN X4 _ _ _ _ _ hF.1 (by omega) (by omega)), fun w2 => absurd ((lg_cmp_eq _ _).mpr (hF.2.2 w)) w2⟩⟩
theorem law_part (H : Rel L xs t n s h l X) (ht : t < 512) (h6 : 6 * t + 6 ≤ L) (hL : L ≤ 3072) (hk : k + 1000 ≤ 601024) (hz : z + 10000 ≤ 7293034) (hN : Nxt L xs t k z K KX) : r_L_law tb0 K KX 1661 [some (vR (some 0)), some (vR (some 4)), some (vR (some 42)), some (vR (some 91)), some (vI (nI (6 * t))), l5, l6, l7] [] X k z := by
  have hs0 : shp tb0 X 0 = (1, L) := H.1.1
  refine e_L_law_1661 ?_
  rw [hs0]
  refine gd_in rfl ⟨lvp (i := 1) (by decide) h6 hL, gd_in ⟨by decide, by decide, by omega, by omega⟩ (op_part (by omega) H (fun c X1 hs hm => rI_in ?_))⟩
  have hs1 : shp tb0 X1 0 = (1, L) := hs.1.trans H.1.1
  rw [hs1, hs.2]
  refine gd_in rfl ⟨lvp (i := 1) (by decide) h6 hL, gd_in ⟨by decide, by omega, by omega⟩ (hm _ _ (fun b X4 hF => rI_in (gd_in ⟨by decide, by omega, by omega⟩ (s_thrown (rI_in ⟨fun _ => ?_, fun w => absurd hF.2.1 w⟩)))))⟩
  exact e_L_law_1697 ⟨fun _ => e_L_law_1714 (hN X4 _ _ _ _ _ hF.1 (by omega) (by omega)), fun w => ⟨by unfold vp_in; decide, fun _ => e_L_law_1714 (hN X4 _ _ _ _ _ hF.1 (by omega) (by omega)), fun w2 => absurd ((lg_cmp_eq _ _).mpr (hF.2.2 w)) w2⟩⟩
theorem law_about (H : Rel L xs t n s h l X) (ht : t < 512) (h6 : 6 * t + 6 ≤ L) (hL : L ≤ 3072) (hk : k + 1000 ≤ 601024) (hz : z + 10000 ≤ 7293034) (hN : Nxt L xs t k z K KX) : r_L_law tb0 K KX 1717 [some (vR (some 0)), some (vR (some 4)), some (vR (some 42)), some (vR (some 91)), some (vI (nI (6 * t))), l5, l6, l7] [] X k z := by
  have hs0 : shp tb0 X 0 = (1, L) := H.1.1
  refine e_L_law_1717 ?_
  rw [hs0]
  refine gd_in rfl ⟨lvp (i := 1) (by decide) h6 hL, gd_in ⟨by decide, by decide, by omega, by omega⟩ (op_about (by omega) H (fun c X1 hs hm => rI_in ?_))⟩
  have hs1 : shp tb0 X1 0 = (1, L) := hs.1.trans H.1.1
  rw [hs1, hs.2]
  refine gd_in rfl ⟨lvp (i := 1) (by decide) h6 hL, gd_in ⟨by decide, by omega, by omega⟩ (hm _ _ (fun b X4 hF => rI_in (gd_in ⟨by decide, by omega, by omega⟩ (s_thrown (rI_in ⟨fun _ => ?_, fun w => absurd hF.2.1 w⟩)))))⟩
  exact e_L_law_1753 ⟨fun _ => e_L_law_1770 (hN X4 _ _ _ _ _ hF.1 (by omega) (by omega)), fun w => ⟨by unfold vp_in; decide, fun _ => e_L_law_1770 (hN X4 _ _ _ _ _ hF.1 (by omega) (by omega)), fun w2 => absurd ((lg_cmp_eq _ _).mpr (hF.2.2 w)) w2⟩⟩
theorem law_dark (H : Rel L xs t n s h l X) (ht : t < 512) (h6 : 6 * t + 6 ≤ L) (hL : L ≤ 3072) (hk : k + 1000 ≤ 601024) (hz : z + 10000 ≤ 7293034) (hN : Nxt L xs t k z K KX) : r_L_law tb0 K KX 1773 [some (vR (some 0)), some (vR (some 4)), some (vR (some 42)), some (vR (some 91)), some (vI (nI (6 * t))), l5, l6, l7] [] X k z := by
  have hs0 : shp tb0 X 0 = (1, L) := H.1.1
  refine e_L_law_1773 ?_
  rw [hs0]
  refine gd_in rfl ⟨lvp (i := 1) (by decide) h6 hL, gd_in ⟨by decide, by decide, by omega, by omega⟩ (op_dark (by omega) H (fun c X1 hs hm => rI_in ?_))⟩
  have hs1 : shp tb0 X1 0 = (1, L) := hs.1.trans H.1.1
  rw [hs1, hs.2]
  refine gd_in rfl ⟨lvp (i := 1) (by decide) h6 hL, gd_in ⟨by decide, by omega, by omega⟩ (hm _ _ (fun b X4 hF => rI_in (gd_in ⟨by decide, by omega, by omega⟩ (s_thrown (rI_in ⟨fun _ => ?_, fun w => absurd hF.2.1 w⟩)))))⟩
  exact e_L_law_1809 ⟨fun _ => e_L_law_1826 (hN X4 _ _ _ _ _ hF.1 (by omega) (by omega)), fun w => ⟨by unfold vp_in; decide, fun _ => e_L_law_1826 (hN X4 _ _ _ _ _ hF.1 (by omega) (by omega)), fun w2 => absurd ((lg_cmp_eq _ _).mpr (hF.2.2 w)) w2⟩⟩
theorem law_receipt (H : Rel L xs t n s h l X) (ht : t < 512) (h6 : 6 * t + 6 ≤ L) (hL : L ≤ 3072) (hk : k + 1000 ≤ 601024) (hz : z + 10000 ≤ 7293034) (hN : Nxt L xs t k z K KX) : r_L_law tb0 K KX 1829 [some (vR (some 0)), some (vR (some 4)), some (vR (some 42)), some (vR (some 91)), some (vI (nI (6 * t))), l5, l6, l7] [] X k z := by
  have hs0 : shp tb0 X 0 = (1, L) := H.1.1
  refine e_L_law_1829 ?_
  rw [hs0]
  refine gd_in rfl ⟨lvp (i := 1) (by decide) h6 hL, gd_in rfl ⟨lvp (i := 2) (by decide) h6 hL, gd_in ⟨by decide, by decide, by omega, by omega⟩ (op_receipt (by omega) H (fun c X1 hs hm => rI_in ?_))⟩⟩
  have hs1 : shp tb0 X1 0 = (1, L) := hs.1.trans H.1.1
  rw [hs1, hs.2]
  refine gd_in rfl ⟨lvp (i := 1) (by decide) h6 hL, gd_in rfl ⟨lvp (i := 2) (by decide) h6 hL, gd_in ⟨by decide, by omega, by omega⟩ (hm _ _ (fun b X4 hF => rI_in (gd_in ⟨by decide, by omega, by omega⟩ (s_thrown (rI_in ⟨fun _ => ?_, fun w => absurd hF.2.1 w⟩)))))⟩⟩
  exact e_L_law_1877 ⟨fun _ => e_L_law_1894 (hN X4 _ _ _ _ _ hF.1 (by omega) (by omega)), fun w => ⟨by unfold vp_in; decide, fun _ => e_L_law_1894 (hN X4 _ _ _ _ _ hF.1 (by omega) (by omega)), fun w2 => absurd ((lg_cmp_eq _ _).mpr (hF.2.2 w)) w2⟩⟩
theorem law_again (H : Rel L xs t n s h l X) (ht : t < 512) (h6 : 6 * t + 6 ≤ L) (hL : L ≤ 3072) (hk : k + 1000 ≤ 601024) (hz : z + 10000 ≤ 7293034) (hN : Nxt L xs t k z K KX) : r_L_law tb0 K KX 1897 [some (vR (some 0)), some (vR (some 4)), some (vR (some 42)), some (vR (some 91)), some (vI (nI (6 * t))), l5, l6, l7] [] X k z := by
  refine e_L_law_1897 ?_
  refine gd_in ⟨by decide, by decide, by omega, by omega⟩ (op_again (by omega) H (fun c X1 hs hm => rI_in ?_))
  refine gd_in ⟨by decide, by omega, by omega⟩ (hm _ _ (fun b X4 hF => rL_in (gd_in ⟨by decide, by omega, by omega⟩ (s_thrown (rI_in ⟨fun _ => ?_, fun w => absurd hF.2.1 w⟩)))))
  exact e_L_law_1921 ⟨fun _ => e_L_law_1937 (hN X4 _ _ _ _ _ hF.1 (by omega) (by omega)), fun w => ⟨by unfold vp_in; decide, fun _ => e_L_law_1937 (hN X4 _ _ _ _ _ hF.1 (by omega) (by omega)), fun w2 => absurd ((lg_cmp_eq _ _).mpr (hF.2.2 w)) w2⟩⟩
theorem law_leg (H : Rel L xs t n s h l X) (ht : t < 512) (h6 : 6 * t + 6 ≤ L) (hL : L ≤ 3072) (hk : k + 1000 ≤ 601024) (hz : z + 10000 ≤ 7293034) (hN : Nxt L xs t k z K KX) : r_L_law tb0 K KX 1940 [some (vR (some 0)), some (vR (some 4)), some (vR (some 42)), some (vR (some 91)), some (vI (nI (6 * t))), l5, l6, l7] [] X k z := by
  have hs0 : shp tb0 X 0 = (1, L) := H.1.1
  refine e_L_law_1940 ?_
  rw [hs0]
  refine gd_in rfl ⟨lvp (i := 1) (by decide) h6 hL, gd_in rfl ⟨lvp (i := 2) (by decide) h6 hL, gd_in ⟨by decide, by decide, by omega, by omega⟩ (op_leg (by omega) H (fun c X1 hs hm => rI_in ?_))⟩⟩
  have hs1 : shp tb0 X1 0 = (1, L) := hs.1.trans H.1.1
  rw [hs1, hs.2]
  refine gd_in rfl ⟨lvp (i := 1) (by decide) h6 hL, gd_in rfl ⟨lvp (i := 2) (by decide) h6 hL, gd_in ⟨by decide, by omega, by omega⟩ (hm _ _ (fun b X4 hF => rI_in (gd_in ⟨by decide, by omega, by omega⟩ (s_thrown (rI_in ⟨fun _ => ?_, fun w => absurd hF.2.1 w⟩)))))⟩⟩
  exact e_L_law_1988 ⟨fun _ => e_L_law_2005 (hN X4 _ _ _ _ _ hF.1 (by omega) (by omega)), fun w => ⟨by unfold vp_in; decide, fun _ => e_L_law_2005 (hN X4 _ _ _ _ _ hF.1 (by omega) (by omega)), fun w2 => absurd ((lg_cmp_eq _ _).mpr (hF.2.2 w)) w2⟩⟩
theorem law_clear (H : Rel L xs t n s h l X) (ht : t < 512) (h6 : 6 * t + 6 ≤ L) (hL : L ≤ 3072) (hk : k + 1000 ≤ 601024) (hz : z + 10000 ≤ 7293034) (hN : Nxt L xs t k z K KX) : r_L_law tb0 K KX 2008 [some (vR (some 0)), some (vR (some 4)), some (vR (some 42)), some (vR (some 91)), some (vI (nI (6 * t))), l5, l6, l7] [] X k z := by
  refine e_L_law_2008 (gd_in ⟨by decide, by omega, by omega⟩ (op_clear (by omega) H (fun a X1 hs hm => rI_in (gd_in ⟨by decide, by omega, by omega⟩ (hm _ _ (fun b X4 hF => rI_in ⟨fun _ => hN X4 _ _ _ _ _ hF.1 (by omega) (by omega), fun w => absurd hF.2.symm w⟩))))))
theorem law_should (H : Rel L xs t n s h l X) (ht : t < 512) (h6 : 6 * t + 6 ≤ L) (hL : L ≤ 3072) (hk : k + 1000 ≤ 601024) (hz : z + 10000 ≤ 7293034) (hN : Nxt L xs t k z K KX) : r_L_law tb0 K KX 2021 [some (vR (some 0)), some (vR (some 4)), some (vR (some 42)), some (vR (some 91)), some (vI (nI (6 * t))), l5, l6, l7] [] X k z := by
  have hs0 : shp tb0 X 0 = (1, L) := H.1.1
  refine e_L_law_2021 ?_
  rw [hs0]
  refine gd_in rfl ⟨lvp (i := 1) (by decide) h6 hL, gd_in rfl ⟨lvp (i := 2) (by decide) h6 hL, gd_in rfl ⟨lvp (i := 3) (by decide) h6 hL, gd_in rfl ⟨lvp (i := 4) (by decide) h6 hL, gd_in rfl ⟨lvp (i := 5) (by decide) h6 hL, gd_in ⟨by decide, by decide, by omega, by omega⟩ (op_should (by omega) H (fun c X1 hs hm => rI_in ?_))⟩⟩⟩⟩⟩
  have hs1 : shp tb0 X1 0 = (1, L) := hs.1.trans H.1.1
  rw [hs1, hs.2]
  refine gd_in rfl ⟨lvp (i := 1) (by decide) h6 hL, gd_in rfl ⟨lvp (i := 2) (by decide) h6 hL, gd_in rfl ⟨lvp (i := 3) (by decide) h6 hL, gd_in rfl ⟨lvp (i := 4) (by decide) h6 hL, gd_in rfl ⟨lvp (i := 5) (by decide) h6 hL, gd_in ⟨by decide, by omega, by omega⟩ (hm _ _ (fun b X4 hF => rL_in (gd_in ⟨by decide, by omega, by omega⟩ (s_thrown (rI_in ⟨fun _ => ?_, fun w => absurd hF.2.1 w⟩)))))⟩⟩⟩⟩⟩
  exact e_L_law_2105 ⟨fun _ => e_L_law_2121 (hN X4 _ _ _ _ _ hF.1 (by omega) (by omega)), fun w => ⟨by unfold vp_in; decide, fun _ => e_L_law_2121 (hN X4 _ _ _ _ _ hF.1 (by omega) (by omega)), fun w2 => absurd ((lg_cmp_eq _ _).mpr (hF.2.2 w)) w2⟩⟩
theorem law_error (H : Rel L xs t n s h l X) (ht : t < 512) (h6 : 6 * t + 6 ≤ L) (hL : L ≤ 3072) (hk : k + 1000 ≤ 601024) (hz : z + 10000 ≤ 7293034) (hN : Nxt L xs t k z K KX) : r_L_law tb0 K KX 2124 [some (vR (some 0)), some (vR (some 4)), some (vR (some 42)), some (vR (some 91)), some (vI (nI (6 * t))), l5, l6, l7] [] X k z := by
  refine e_L_law_2124 ?_
  refine gd_in ⟨by decide, by decide, by omega, by omega⟩ (op_error (by omega) H (fun c X1 hs hm => rI_in ?_))
  refine gd_in ⟨by decide, by omega, by omega⟩ (hm _ _ (fun b X4 hF => rI_in (gd_in ⟨by decide, by omega, by omega⟩ (s_thrown (rI_in ⟨fun _ => ?_, fun w => absurd hF.2.1 w⟩)))))
  exact e_L_law_2148 ⟨fun _ => e_L_law_2165 (hN X4 _ _ _ _ _ hF.1 (by omega) (by omega)), fun w => ⟨by unfold vp_in; decide, fun _ => e_L_law_2165 (hN X4 _ _ _ _ _ hF.1 (by omega) (by omega)), fun w2 => absurd ((lg_cmp_eq _ _).mpr (hF.2.2 w)) w2⟩⟩
theorem law_within (H : Rel L xs t n s h l X) (ht : t < 512) (h6 : 6 * t + 6 ≤ L) (hL : L ≤ 3072) (hk : k + 1000 ≤ 601024) (hz : z + 10000 ≤ 7293034) (hN : Nxt L xs t k z K KX) : r_L_law tb0 K KX 2168 [some (vR (some 0)), some (vR (some 4)), some (vR (some 42)), some (vR (some 91)), some (vI (nI (6 * t))), l5, l6, l7] [] X k z := by
  have hs0 : shp tb0 X 0 = (1, L) := H.1.1
  refine e_L_law_2168 ?_
  rw [hs0]
  refine gd_in rfl ⟨lvp (i := 1) (by decide) h6 hL, gd_in rfl ⟨lvp (i := 2) (by decide) h6 hL, gd_in ⟨by decide, by decide, by omega, by omega⟩ (op_within (by omega) H (fun c X1 hs hm => rI_in ?_))⟩⟩
  have hs1 : shp tb0 X1 0 = (1, L) := hs.1.trans H.1.1
  rw [hs1, hs.2]
  refine gd_in rfl ⟨lvp (i := 1) (by decide) h6 hL, gd_in rfl ⟨lvp (i := 2) (by decide) h6 hL, gd_in ⟨by decide, by omega, by omega⟩ (hm _ _ (fun b X4 hF => rI_in (gd_in ⟨by decide, by omega, by omega⟩ (s_thrown (rI_in ⟨fun _ => ?_, fun w => absurd hF.1.2.1 w⟩)))))⟩⟩
  refine e_L_law_2216 ⟨fun _ => e_L_law_2240 (hN X4 _ _ _ _ _ hF.1.1 (by omega) (by omega)), fun w => ⟨by unfold vp_in; decide, fun w2 => e_L_law_2233 (e_L_law_2234 ⟨fun _ => e_L_law_2240 (hN X4 _ _ _ _ _ hF.1.1 (by omega) (by omega)), fun w3 => absurd ((lg_cmp_eq _ _).mpr ?_) w3⟩), fun w2 => e_L_law_2234 ⟨fun _ => e_L_law_2240 (hN X4 _ _ _ _ _ hF.1.1 (by omega) (by omega)), fun w3 => absurd ((lg_cmp_eq _ _).mpr ?_) w3⟩⟩⟩
  · refine (hF.1.2.2 w).trans ?_
    rw [w2]; decide
  · refine (hF.1.2.2 w).trans ?_
    rcases hF.2 with g | g
    · exact absurd g w2
    · rw [g]; decide
theorem law_keep (H : Rel L xs t n s h l X) (ht : t < 512) (h6 : 6 * t + 6 ≤ L) (hL : L ≤ 3072) (hk : k + 1000 ≤ 601024) (hz : z + 10000 ≤ 7293034) (hN : Nxt L xs t k z K KX) : r_L_law tb0 K KX 2243 [some (vR (some 0)), some (vR (some 4)), some (vR (some 42)), some (vR (some 91)), some (vI (nI (6 * t))), l5, l6, l7] [] X k z := by
  refine e_L_law_2243 ?_
  refine gd_in ⟨by decide, by decide, by omega, by omega⟩ (op_keep (by omega) H (fun c X1 hs hm => rI_in ?_))
  refine gd_in ⟨by decide, by omega, by omega⟩ (hm _ _ (fun b X4 hF => rI_in (gd_in ⟨by decide, by omega, by omega⟩ (s_thrown (rI_in ⟨fun _ => ?_, fun w => absurd hF.2.1 w⟩)))))
  exact e_L_law_2267 ⟨fun _ => e_L_law_2284 (hN X4 _ _ _ _ _ hF.1 (by omega) (by omega)), fun w => ⟨by unfold vp_in; decide, fun _ => e_L_law_2284 (hN X4 _ _ _ _ _ hF.1 (by omega) (by omega)), fun w2 => absurd ((lg_cmp_eq _ _).mpr (hF.2.2 w)) w2⟩⟩
theorem law_back (H : Rel L xs t n s h l X) (ht : t < 512) (h6 : 6 * t + 6 ≤ L) (hL : L ≤ 3072) (hk : k + 1000 ≤ 601024) (hz : z + 10000 ≤ 7293034) (hN : Nxt L xs t k z K KX) : r_L_law tb0 K KX 2287 [some (vR (some 0)), some (vR (some 4)), some (vR (some 42)), some (vR (some 91)), some (vI (nI (6 * t))), l5, l6, l7] [] X k z := by
  refine e_L_law_2287 ?_
  refine gd_in ⟨by decide, by decide, by omega, by omega⟩ (op_back (by omega) H (fun c X1 hs hm => rI_in ?_))
  refine gd_in ⟨by decide, by omega, by omega⟩ (hm _ _ (fun b X4 hF => rI_in (gd_in ⟨by decide, by omega, by omega⟩ (s_thrown (rI_in ⟨fun _ => ?_, fun w => absurd hF.2.1 w⟩)))))
  exact e_L_law_2311 ⟨fun _ => e_L_law_2328 (hN X4 _ _ _ _ _ hF.1 (by omega) (by omega)), fun w => ⟨by unfold vp_in; decide, fun _ => e_L_law_2328 (hN X4 _ _ _ _ _ hF.1 (by omega) (by omega)), fun w2 => absurd ((lg_cmp_eq _ _).mpr (hF.2.2 w)) w2⟩⟩
set_option maxRecDepth 20000 in
theorem law_loop (hL : L ≤ 3072) : ∀ (r t : Nat), t + r = 512 → ∀ (X : AX) (k z : Nat) (l5 l6 l7 : Option AV), (∃ n s h l, Rel L xs t n s h l X) → k + 1000 * r ≤ 601024 → z + 10000 * r ≤ 7293034 → r_L_law tb0 k1K kxF 23 [some (vR (some 0)), some (vR (some 4)), some (vR (some 42)), some (vR (some 91)), some (vI (nI (6 * t))), l5, l6, l7] [] X k z
  | r, t, hr, X, k, z, l5, l6, l7, ⟨n, s, h, l, H⟩, hk, hz => by
    have hs0 : shp tb0 X 0 = (1, L) := H.1.1
    have e6 : (6 : Int32).toInt = 6 := by decide
    have eL : (Int32.ofNat L).toInt = L := by
      show (nI L).toInt = L
      exact nI_toInt (by omega)
    have el : (Int32.ofNat L - 6).toInt = (L : Int) - 6 := by rw [n_sub] <;> rw [eL, e6] <;> omega
    have et : (nI (6 * t)).toInt = (6 * t : Nat) := nI_toInt (by omega)
    refine e_L_law_23 ?_
    rw [hs0]
    refine gd_in (show (0 : Nat) < 1 ∧ (1 : Nat) < 6 from by decide) ⟨fun _ => e_L_law_2337 ⟨Or.inr rfl, rfl⟩, fun w => ?_⟩
    have hge : 6 * t + 6 ≤ L := by
      have w' : ¬ (Int32.ofNat L - 6).toInt < (nI (6 * t)).toInt := fun y => w (Int32.lt_iff_toInt_lt.mpr y)
      rw [el, et] at w'
      omega
    match r, hr, hk, hz with
    | 0, hr, hk, hz => exact absurd hge (by omega)
    | r + 1, hr, hk, hz =>
      have nx : Nxt L xs t k z k1K kxF := fun X' k' z' l5 l6 l7 hR hk' hz' => e_L_law_2331 (by
        have e : nI (6 * t) + 6 = nI (6 * (t + 1)) := by
          refine Int32.toInt_inj.mp ?_
          rw [n_add] <;> rw [et, e6]
          · rw [nI_toInt (by omega)]; omega
          · omega
          · omega
        rw [e]
        exact law_loop hL r (t + 1) (by omega) X' k' z' l5 l6 l7 hR (by omega) (by omega))
      have v0 : vp_in (nI (6 * t)) L := vp_in_iff.mpr ⟨by omega, by omega⟩
      have ht1 : t < 512 := by omega
      have hk1 : k + 1000 ≤ 601024 := by omega
      have hz1 : z + 10000 ≤ 7293034 := Nat.le_trans (Nat.add_le_add_left (Nat.le_mul_of_pos_right 10000 (Nat.succ_pos r)) z) hz
      have hk0 : k ≤ k + 1000 := by omega
      have hz0 : z ≤ z + 10000 := by omega
      exact gd_in rfl ⟨v0, fun _ => nx X k z l5 l6 l7 ⟨n, s, h, l, H.up⟩ hk0 hz0, fun _ => law_wheel H ht1 hge hL hk1 hz1 nx, fun _ => law_row H ht1 hge hL hk1 hz1 nx, fun _ => law_pulse H ht1 hge hL hk1 hz1 nx, fun _ => law_tear H ht1 hge hL hk1 hz1 nx, fun _ => law_pulses H ht1 hge hL hk1 hz1 nx, fun _ => law_tariff H ht1 hge hL hk1 hz1 nx, fun _ => law_set H ht1 hge hL hk1 hz1 nx, fun _ => law_number H ht1 hge hL hk1 hz1 nx, fun _ => law_slot H ht1 hge hL hk1 hz1 nx, fun _ => law_kind H ht1 hge hL hk1 hz1 nx, fun _ => law_seal H ht1 hge hL hk1 hz1 nx, fun _ => law_breaks H ht1 hge hL hk1 hz1 nx, fun _ => law_blow H ht1 hge hL hk1 hz1 nx, fun _ => law_sets H ht1 hge hL hk1 hz1 nx, fun _ => law_since H ht1 hge hL hk1 hz1 nx, fun _ => law_hire H ht1 hge hL hk1 hz1 nx, fun _ => law_second H ht1 hge hL hk1 hz1 nx, fun _ => law_run H ht1 hge hL hk1 hz1 nx, fun _ => law_hand H ht1 hge hL hk1 hz1 nx, fun _ => law_extra H ht1 hge hL hk1 hz1 nx, fun _ => law_end H ht1 hge hL hk1 hz1 nx, fun _ => law_pay H ht1 hge hL hk1 hz1 nx, fun _ => law_fare H ht1 hge hL hk1 hz1 nx, fun _ => law_part H ht1 hge hL hk1 hz1 nx, fun _ => law_about H ht1 hge hL hk1 hz1 nx, fun _ => law_dark H ht1 hge hL hk1 hz1 nx, fun _ => law_receipt H ht1 hge hL hk1 hz1 nx, fun _ => law_again H ht1 hge hL hk1 hz1 nx, fun _ => law_leg H ht1 hge hL hk1 hz1 nx, fun _ => law_clear H ht1 hge hL hk1 hz1 nx, fun _ => law_should H ht1 hge hL hk1 hz1 nx, fun _ => law_error H ht1 hge hL hk1 hz1 nx, fun _ => law_within H ht1 hge hL hk1 hz1 nx, fun _ => law_keep H ht1 hge hL hk1 hz1 nx, fun _ => law_back H ht1 hge hL hk1 hz1 nx, trivial⟩
end Law
