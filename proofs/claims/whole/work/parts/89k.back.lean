/-! back -/
section Ops
variable {L : Nat} {xs : Nat → Int32} {t n s h l : Nat} {X : AX} {K : Option AV → AX → Prop} {KX : String → AX → Prop}
def bkC (X : AX) (v : Int64) : AX := (xS X, bcI (xI X) 15 24, u2 (u2 (u2 (xJ X) 15 5 (xJ X 24 5)) 15 6 (xJ X 24 6)) 91 0 v, u2 (xR X) 15 1 (xR X 24 1), xN X)
def bkX (X : AX) (v : Int64) (N : Nat) : AX := cpX (th0 (bkC X v)) 1 0 N
theorem bk_hire {v : Int64} {N : Nat} (hN : (xI X 24 13).toNatClampNeg = N) (h50 : (xI X 24 12).toNatClampNeg ≤ 50) : mEq 24 1 X 15 0 (bkX X v N) := by
  refine ⟨(fun j h1 h2 h3 => by
      have hj : j = 2 ∨ j = 3 ∨ j = 4 ∨ j = 7 ∨ j = 8 ∨ j = 9 ∨ j = 10 ∨ j = 11 ∨ j = 12 ∨ j = 13 ∨ j = 14 := by omega
      rcases hj with rfl | rfl | rfl | rfl | rfl | rfl | rfl | rfl | rfl | rfl | rfl <;> rfl), ⟨rfl, rfl⟩, rfl, ⟨rfl, fun j hj => ⟨if_pos hj, if_pos hj⟩⟩,
    (fun i h1 h2 e0 e1 e2 => by
      have hi : i = 59 ∨ i = 62 ∨ i = 63 ∨ i = 64 ∨ i = 65 ∨ i = 66 ∨ i = 67 ∨ i = 68 ∨ i = 69 ∨ i = 70 ∨ i = 72 ∨ i = 73 := by omega
      rcases hi with rfl | rfl | rfl | rfl | rfl | rfl | rfl | rfl | rfl | rfl | rfl | rfl <;> rfl), (fun i h1 h2  => by
      have hi : i = 74 ∨ i = 75 ∨ i = 76 ∨ i = 77 := by omega
      rcases hi with rfl | rfl | rfl | rfl <;> rfl),
    fun j hj => (by show blk (xI X 81) 12 1 0 12 (12 * 0 + j) = xI X 81 (12 * 1 + j); exact blk_at _ (by omega)),
    fun j hj => ⟨(by show blk (xI X 82) 3840 1 0 N (3840 * 0 + j) = xI X 82 (3840 * 1 + j); exact blk_at _ (by omega)), rfl⟩,
    fun j hj => ⟨(by show blk (xI X 83) 50 1 0 50 (50 * 0 + j) = xI X 83 (50 * 1 + j); exact blk_at _ (by omega)), (by show blk (xI X 84) 50 1 0 50 (50 * 0 + j) = xI X 84 (50 * 1 + j); exact blk_at _ (by omega)), rfl, rfl⟩,
    fun j hj => ⟨(by show blk (xJ X 85) 80 1 0 80 (80 * 0 + j) = xJ X 85 (80 * 1 + j); exact blk_at _ (by omega)), (by show blk (xJ X 86) 80 1 0 80 (80 * 0 + j) = xJ X 86 (80 * 1 + j); exact blk_at _ (by omega))⟩,
    ⟨rfl, rfl, rfl⟩⟩
theorem bk_img {v : Int64} {N : Nat} (hN : (xI X 24 13).toNatClampNeg = N) (h38 : N ≤ 3840) (h50 : (xI X 24 12).toNatClampNeg ≤ 50) : mEq 24 1 X 24 1 (bkX X v N) := by
  refine ⟨(fun j h1 h2 h3 => by
      have hj : j = 2 ∨ j = 3 ∨ j = 4 ∨ j = 7 ∨ j = 8 ∨ j = 9 ∨ j = 10 ∨ j = 11 ∨ j = 12 ∨ j = 13 ∨ j = 14 := by omega
      rcases hj with rfl | rfl | rfl | rfl | rfl | rfl | rfl | rfl | rfl | rfl | rfl <;> rfl), ⟨rfl, rfl⟩, rfl, ⟨rfl, fun j hj => ⟨rfl, rfl⟩⟩,
    (fun i h1 h2 e0 e1 e2 => by
      have hi : i = 59 ∨ i = 62 ∨ i = 63 ∨ i = 64 ∨ i = 65 ∨ i = 66 ∨ i = 67 ∨ i = 68 ∨ i = 69 ∨ i = 70 ∨ i = 72 ∨ i = 73 := by omega
      rcases hi with rfl | rfl | rfl | rfl | rfl | rfl | rfl | rfl | rfl | rfl | rfl | rfl <;> rfl), (fun i h1 h2  => by
      have hi : i = 74 ∨ i = 75 ∨ i = 76 ∨ i = 77 := by omega
      rcases hi with rfl | rfl | rfl | rfl <;> rfl),
    fun j hj => (by show blk (xI X 81) 12 1 0 12 (12 * 1 + j) = xI X 81 (12 * 1 + j); exact blk_out _ (by omega)),
    fun j hj => ⟨(by show blk (xI X 82) 3840 1 0 N (3840 * 1 + j) = xI X 82 (3840 * 1 + j); exact blk_out _ (by omega)), rfl⟩,
    fun j hj => ⟨(by show blk (xI X 83) 50 1 0 50 (50 * 1 + j) = xI X 83 (50 * 1 + j); exact blk_out _ (by omega)), (by show blk (xI X 84) 50 1 0 50 (50 * 1 + j) = xI X 84 (50 * 1 + j); exact blk_out _ (by omega)), rfl, rfl⟩,
    fun j hj => ⟨(by show blk (xJ X 85) 80 1 0 80 (80 * 1 + j) = xJ X 85 (80 * 1 + j); exact blk_out _ (by omega)), (by show blk (xJ X 86) 80 1 0 80 (80 * 1 + j) = xJ X 86 (80 * 1 + j); exact blk_out _ (by omega))⟩,
    ⟨rfl, rfl, rfl⟩⟩
theorem rel_back (ht : t < 600) (H : Rel L xs t n s h l X) (h6 : (xI X 14 6).toInt = 1) (hq : xI X 4 12 = xI X 14 5) {v : Int64} {N : Nat} (hN : (xI X 24 13).toNatClampNeg = N) : Rel L xs (t + 1) n s h l (bkX X v N) := by
  obtain ⟨hS, hW, hR, hT, hL, hE, hKk, hH, hC, hG⟩ := H
  have hi : ∀ i, 92 ≤ i → xI (bkX X v N) i = xI X i := fun i hi => by
    show xI (cpX (th0 (bkC X v)) 1 0 N) i = _
    rw [cpX_hi _ _ _ _ i hi]
    show u2 (bcI (xI X) 15 24) 42 0 0 i = _
    rw [u2_ne _ _ _ (by omega), bcI_hi _ (by decide) i hi]
  obtain ⟨g1, g2, ⟨g3a, g3b, g3c, g3d⟩, g4a, g4b, g4c⟩ := rlG_up hG
  obtain ⟨hall, g66, g65, g78, gf⟩ := g1 h6
  obtain ⟨iall, i66, i65, i78, i63, i60, i61, i79, i80, i12, i13⟩ := g3d h6 hq
  obtain ⟨lim1, lim2⟩ := m_lim iall.1
  have h0 := hH.2.2.2.2.2.1 h6
  obtain ⟨k1, k2, k3, k4, k5, k6, k7, k8⟩ := hH.2.2.2.2.2.2.2.2.2.2 h0
  have hht := hH.2.2.1
  have e16 : xI X 42 16 = 1 := by
    rcases g3a with e | e
    · have q := g3b e
      rw [hq, k1, nI_toInt (by omega)] at q
      omega
    · exact e
  have e58 : xI X 58 1 = nI (h - 1) := by rw [← (g3c e16).1, hq, k1]
  have e6 : xI (bkX X v N) 14 6 = xI X 14 6 := rfl
  obtain ⟨p1, p2, p3, p4, p5, p6, p7, p8, p9, p10, -⟩ := rlH_up hH
  refine ⟨rlS_n hS rfl rfl rfl rfl rfl (Nat.le_refl _), hW, hR, rlT_fr hi rfl rfl rfl rfl (Nat.le_refl _) rfl rfl hT, hL, hE, hKk, ⟨p1, p2, p3, p4, p5, p6, p7, p8, p9, p10, fun _ => ⟨k1, e58, i60.trans k3, i61.trans k4, i79.trans k5, k6, i80.trans k7, k8⟩⟩, rlC_fr hi rfl rfl rfl rfl rfl rfl rfl rfl (Nat.le_refl _) rfl hC, ?_⟩
  refine ⟨fun _ => ⟨mAll_tr (bk_hire hN lim1) iall, i66, i65, i78, ?_, i79.trans gf.2⟩, fun z => absurd (h6.symm.trans (e6 ▸ z)) (by decide), ⟨g3a, g3b, g3c, fun _ _ => ⟨mAll_tr (bk_img hN (by omega) lim1) iall, i66, i65, i78, rfl, rfl, rfl, rfl, rfl, Int.le_refl _, Int.le_refl _⟩⟩, g4a, g4b, fun w => ?_⟩
  · show xR X 14 4 = xR X 8 (xI X 63 1).toNatClampNeg
    rw [i63]; exact gf.1
  · obtain ⟨u, T, B, v'⟩ := g4c w
    exact ⟨u, T, B, due_fr (X := X) (c := 1) (e := 0) (f := xJ X 85) (g := xJ X 85) (by decide) rfl rfl rfl rfl rfl rfl rfl v'⟩
set_option maxHeartbeats 1000000 in
theorem op_back (ht : t < 600) (H : Rel L xs t n s h l X) (hK : ∀ c X1, SamS X X1 → (∀ K2 KX2, (∀ b X4, FinI L xs t c b X4 → K2 (some (vI b)) X4) → w_X12_back tb0 [vR (some 42)] X1 K2 KX2) → K (some (vI c)) X1) : w_L_back tb0 [vR (some 4), vR (some 91)] X K KX := by
  obtain ⟨hS, hW, hR, hT, hL, hE, hKk, hH, hC, hG⟩ := id H
  have hb := hH.2.2.2.2.1
  have hr : xI X 42 14 = xI X 14 6 := hH.2.2.2.1
  have hht := hH.2.2.1
  unfold bl at hb
  have z0 : nI 0 = (0 : Int32) := by decide
  have z1 : nI 1 = (1 : Int32) := by decide
  obtain ⟨-, -, ⟨g3a, g3b, g3c, g3d⟩, -⟩ := id hG
  refine i_L_back (i_X11_back (s_hired hb (fun h6 => rV_in ⟨fun hq => e_X11_back_22 (e_X11_back_23 (s_demandState0 fun n1 hn => ?_)), fun hq => e_X11_back_23 (s_demandState1 (rV_in ?_))⟩) (fun h6 n1 hn => ?_)))
  · have h0 := hH.2.2.2.2.2.1 h6
    obtain ⟨k1, k2, -⟩ := hH.2.2.2.2.2.2.2.2.2.2 h0
    have r1 : ¬ xI X 42 14 = 0 := fun z => by rw [hr] at z; rw [z] at h6; exact absurd h6 (by decide)
    refine ite_t rfl (gd_in (by decide) (e_L_back_12 (hK _ _ (SamS.mk rfl rfl) (fun K2 KX2 hK2 => i_X12_back ⟨fun z => absurd z r1, fun _ => ⟨fun z => e_X12_back_39 (e_X12_back_40 (s_right0 (by decide) (rI_in ⟨fun z => absurd rfl z, fun _ => hK2 _ _ (fin_thr H hn _ (by decide))⟩))), fun z => ⟨by unfold vp_in; decide, by unfold vp_in; decide, fun _ => e_X12_back_39 (e_X12_back_40 (s_right0 (by decide) (rI_in ⟨fun z => absurd rfl z, fun _ => hK2 _ _ (fin_thr H hn _ (by decide))⟩))), fun w => absurd ?_ hq⟩⟩⟩))))
    have e16 : xI X 42 16 = 1 := by
      rcases g3a with e | e
      · exact absurd e z
      · exact e
    have w' : xI X 58 1 = xI X 58 0 := w
    rw [(g3c e16).1, w', k1, k2]
  · have h0 := hH.2.2.2.2.2.1 h6
    obtain ⟨k1, k2, k3, k4, k5, k6, k7, k8⟩ := hH.2.2.2.2.2.2.2.2.2.2 h0
    obtain ⟨iall, i66, i65, i78, i63, i60, i61, i79, i80, i12, i13⟩ := g3d h6 hq
    obtain ⟨lim1, lim2⟩ := m_lim iall.1
    obtain ⟨-, -, -, -, a5, a6, -, -, -, -, -, -, -, -, -, -, -, a18, a19, a20, a21, -⟩ := iall.1
    have r1 : ¬ xI X 42 14 = 0 := fun z => by rw [hr] at z; rw [z] at h6; exact absurd h6 (by decide)
    have e16 : xI X 42 16 = 1 := by
      rcases g3a with e | e
      · have q := g3b e
        rw [hq, k1, nI_toInt (by omega)] at q
        omega
      · exact e
    have e58 : xI X 58 1 = xI X 58 0 := by rw [← (g3c e16).1, hq, k1, k2]
    refine s_become_15 a21 (rV_in (rI_in ⟨by unfold vp_in; decide, e_L_back_14 (hK 0 (bkC X (xI X 24 4).toInt64) (SamS.mk rfl rfl) (fun K2 KX2 hK2 => i_X12_back ⟨fun z => absurd z r1, fun _ => ⟨fun z => absurd (e16.symm.trans z) (by decide), fun _ => ⟨by unfold vp_in; decide, by unfold vp_in; decide, fun z => absurd e58 z, fun _ => e_X12_back_40 (s_right1 (rI_in ⟨fun _ => e_X12_back_49 ?_, fun z => absurd z (by decide)⟩))⟩⟩⟩))⟩))
    have q := s_copy (X := th0 (bkC X (xI X 24 4).toInt64)) (K := fun v2 X1 => rV v2 (vp_in 0 5 ∧ (K2 (some (vI (xI X1 59 (Int32.toNatClampNeg 0)))) X1))) (KX := KX2) (c := 1) (e := 0) (N := (xI X 24 13).toNatClampNeg) (by decide) (by decide) (by decide) (by rw [show xI (th0 (bkC X (xI X 24 4).toInt64)) 78 1 = xI X 24 14 from i78]; exact a21) (by rw [show xI (th0 (bkC X (xI X 24 4).toInt64)) 79 1 = xI X 14 11 from i79.trans k5]; exact k6) (by rw [show xI (th0 (bkC X (xI X 24 4).toInt64)) 80 1 = xI X 14 12 from i80.trans k7]; exact k8) (fun j hj => (iall.2.2.1 j hj).2.2) lim2 (by show xI X 69 1 = _; rw [a18]; exact nI_ofI a19) (rV_in ⟨by unfold vp_in; decide, hK2 _ _ ⟨⟨n, s, h, l, rel_back ht H h6 hq rfl⟩, rfl, fun _ => ?_⟩⟩)
    · rw [z0, z1] at q
      exact q
    · show (xI X 24 4).toInt64 = (xI X 59 1).toInt64
      rw [a5]
  · refine ite_t rfl (gd_in (by decide) (e_L_back_12 (hK _ _ (SamS.mk rfl rfl) (fun K2 KX2 hK2 => i_X12_back ⟨fun _ => e_X12_back_39 (e_X12_back_40 (s_right0 (by decide) (rI_in ⟨fun z => absurd rfl z, fun _ => hK2 _ _ (fin_thr H hn _ (by decide))⟩))), fun z => absurd ?_ z⟩))))
    show xI X 42 14 = 0
    rw [hr]
    rcases hb with e | e
    · exact e
    · rw [e] at h6; exact absurd h6 (by decide)
end Ops
