/-! keep -/
section Ops
variable {L : Nat} {xs : Nat → Int32} {t n s h l : Nat} {X : AX} {K : Option AV → AX → Prop} {KX : String → AX → Prop}
def kpC (X : AX) (v : Int64) : AX := (xS X, u2 (bcI (xI X) 24 15) 4 12 (xI X 14 5), u2 (u2 (u2 (xJ X) 24 5 (xJ X 15 5)) 24 6 (xJ X 15 6)) 91 0 v, u2 (xR X) 24 1 (xR X 15 1), xN X)
def th0 (X : AX) : AX := (xS X, u2 (xI X) 42 0 0, xJ X, xR X, xN X)
def kpX (X : AX) (v : Int64) (N : Nat) : AX := (xS X, u2 (xI (cpX (th0 (kpC X v)) 0 1 N)) 42 16 1, xJ (cpX (th0 (kpC X v)) 0 1 N), xR (kpC X v), xN X)
theorem kp_img {v : Int64} {N : Nat} (hN : (xI X 15 13).toNatClampNeg = N) (h50 : (xI X 15 12).toNatClampNeg ≤ 50) : mEq 15 0 X 24 1 (kpX X v N) := by
  refine ⟨(fun j h1 h2 h3 => by
      have hj : j = 2 ∨ j = 3 ∨ j = 4 ∨ j = 7 ∨ j = 8 ∨ j = 9 ∨ j = 10 ∨ j = 11 ∨ j = 12 ∨ j = 13 ∨ j = 14 := by omega
      rcases hj with rfl | rfl | rfl | rfl | rfl | rfl | rfl | rfl | rfl | rfl | rfl <;> rfl), ⟨rfl, rfl⟩, rfl, ⟨rfl, fun j hj => ⟨if_pos hj, if_pos hj⟩⟩,
    (fun i h1 h2 e0 e1 e2 => by
      have hi : i = 59 ∨ i = 62 ∨ i = 63 ∨ i = 64 ∨ i = 65 ∨ i = 66 ∨ i = 67 ∨ i = 68 ∨ i = 69 ∨ i = 70 ∨ i = 72 ∨ i = 73 := by omega
      rcases hi with rfl | rfl | rfl | rfl | rfl | rfl | rfl | rfl | rfl | rfl | rfl | rfl <;> rfl), (fun i h1 h2  => by
      have hi : i = 74 ∨ i = 75 ∨ i = 76 ∨ i = 77 := by omega
      rcases hi with rfl | rfl | rfl | rfl <;> rfl),
    fun j hj => (by show blk (xI X 81) 12 0 1 12 (12 * 1 + j) = xI X 81 (12 * 0 + j); exact blk_at _ (by omega)),
    fun j hj => ⟨(by show blk (xI X 82) 3840 0 1 N (3840 * 1 + j) = xI X 82 (3840 * 0 + j); exact blk_at _ (by omega)), rfl⟩,
    fun j hj => ⟨(by show blk (xI X 83) 50 0 1 50 (50 * 1 + j) = xI X 83 (50 * 0 + j); exact blk_at _ (by omega)), (by show blk (xI X 84) 50 0 1 50 (50 * 1 + j) = xI X 84 (50 * 0 + j); exact blk_at _ (by omega)), rfl, rfl⟩,
    fun j hj => ⟨(by show blk (xJ X 85) 80 0 1 80 (80 * 1 + j) = xJ X 85 (80 * 0 + j); exact blk_at _ (by omega)), (by show blk (xJ X 86) 80 0 1 80 (80 * 1 + j) = xJ X 86 (80 * 0 + j); exact blk_at _ (by omega))⟩,
    ⟨rfl, rfl, rfl⟩⟩
theorem kp_hire {v : Int64} {N : Nat} (hN : (xI X 15 13).toNatClampNeg ≤ 3840) (h50 : (xI X 15 12).toNatClampNeg ≤ 50) : mEq 15 0 X 15 0 (kpX X v N) := by
  refine ⟨(fun j h1 h2 h3 => by
      have hj : j = 2 ∨ j = 3 ∨ j = 4 ∨ j = 7 ∨ j = 8 ∨ j = 9 ∨ j = 10 ∨ j = 11 ∨ j = 12 ∨ j = 13 ∨ j = 14 := by omega
      rcases hj with rfl | rfl | rfl | rfl | rfl | rfl | rfl | rfl | rfl | rfl | rfl <;> rfl), ⟨rfl, rfl⟩, rfl, ⟨rfl, fun j hj => ⟨rfl, rfl⟩⟩,
    (fun i h1 h2 e0 e1 e2 => by
      have hi : i = 59 ∨ i = 62 ∨ i = 63 ∨ i = 64 ∨ i = 65 ∨ i = 66 ∨ i = 67 ∨ i = 68 ∨ i = 69 ∨ i = 70 ∨ i = 72 ∨ i = 73 := by omega
      rcases hi with rfl | rfl | rfl | rfl | rfl | rfl | rfl | rfl | rfl | rfl | rfl | rfl <;> rfl), (fun i h1 h2  => by
      have hi : i = 74 ∨ i = 75 ∨ i = 76 ∨ i = 77 := by omega
      rcases hi with rfl | rfl | rfl | rfl <;> rfl),
    fun j hj => (by show blk (xI X 81) 12 0 1 12 (12 * 0 + j) = xI X 81 (12 * 0 + j); exact blk_out _ (by omega)),
    fun j hj => ⟨(by show blk (xI X 82) 3840 0 1 N (3840 * 0 + j) = xI X 82 (3840 * 0 + j); exact blk_out _ (by omega)), rfl⟩,
    fun j hj => ⟨(by show blk (xI X 83) 50 0 1 50 (50 * 0 + j) = xI X 83 (50 * 0 + j); exact blk_out _ (by omega)), (by show blk (xI X 84) 50 0 1 50 (50 * 0 + j) = xI X 84 (50 * 0 + j); exact blk_out _ (by omega)), rfl, rfl⟩,
    fun j hj => ⟨(by show blk (xJ X 85) 80 0 1 80 (80 * 0 + j) = xJ X 85 (80 * 0 + j); exact blk_out _ (by omega)), (by show blk (xJ X 86) 80 0 1 80 (80 * 0 + j) = xJ X 86 (80 * 0 + j); exact blk_out _ (by omega))⟩,
    ⟨rfl, rfl, rfl⟩⟩
theorem m_lim {m c : Nat} (w : mNum t m c X) : (xI X m 12).toNatClampNeg ≤ 50 ∧ (xI X m 13).toNatClampNeg ≤ 3840 := by
  obtain ⟨-, -, -, -, -, a6, -, -, -, -, -, -, -, -, -, -, a17, -, a19, a20, -⟩ := w
  unfold bnd at a6 a17
  have q1 := clp a17.1
  have q2 := clp a19
  omega
theorem due_fr {T B : Int} {Y : AX} {f : Nat → Int64} {g : Nat → Int64} {c e : Nat} (he : e < 4) (a : xI Y 38 = xI X 38) (b : xI Y 39 = xI X 39) (d : xI Y 40 = xI X 40) (e7 : xI Y 72 4 = xI X 72 4) (f7 : xI Y 73 4 = xI X 73 4) (g5 : xJ Y 85 = blk (xJ X 85) 80 c e 80) (g6 : xJ Y 86 = blk (xJ X 86) 80 c e 80) (w : mFrac 37 4 T B X) : mFrac 37 4 T B Y := by
  refine mFrac_fr (congrFun a 3) b d e7 f7 ?_ ?_ w
  · funext k
    show xJ Y 85 (80 * 4 + k) = xJ X 85 (80 * 4 + k)
    rw [g5]; exact blk_out _ (by omega)
  · funext k
    show xJ Y 86 (80 * 4 + k) = xJ X 86 (80 * 4 + k)
    rw [g6]; exact blk_out _ (by omega)
theorem rel_keep (ht : t < 600) (H : Rel L xs t n s h l X) (h6 : (xI X 14 6).toInt = 1) {v : Int64} {N : Nat} (hN : (xI X 15 13).toNatClampNeg = N) : Rel L xs (t + 1) n s h l (kpX X v N) := by
  obtain ⟨hS, hW, hR, hT, hL, hE, hKk, hH, hC, hG⟩ := H
  have hi : ∀ i, 92 ≤ i → xI (kpX X v N) i = xI X i := fun i hi => by
    show u2 (xI (cpX (th0 (kpC X v)) 0 1 N)) 42 16 1 i = _
    rw [u2_ne _ _ _ (by omega), cpX_hi _ _ _ _ i hi]
    show u2 (u2 (bcI (xI X) 24 15) 4 12 (xI X 14 5)) 42 0 0 i = _
    rw [u2_ne _ _ _ (by omega), u2_ne _ _ _ (by omega), bcI_hi _ (by decide) i hi]
  obtain ⟨g1, g2, ⟨g3a, g3b, g3c, g3d⟩, g4a, g4b, g4c⟩ := rlG_up hG
  obtain ⟨hall, g66, g65, g78, gf⟩ := g1 h6
  obtain ⟨lim1, lim2⟩ := m_lim hall.1
  have h0 := hH.2.2.2.2.2.1 h6
  obtain ⟨k1, k2, k3, k4, k5, k6, k7, k8⟩ := hH.2.2.2.2.2.2.2.2.2.2 h0
  have hht := hH.2.2.1
  have e6 : xI (kpX X v N) 14 6 = xI X 14 6 := rfl
  refine ⟨rlS_n hS rfl rfl rfl rfl rfl (Nat.le_refl _), hW, hR, rlT_fr hi rfl rfl rfl rfl (Nat.le_refl _) rfl rfl hT, hL, hE, hKk, rlH_up hH, rlC_fr hi rfl rfl rfl rfl rfl rfl rfl rfl (Nat.le_refl _) rfl hC, ?_⟩
  refine ⟨fun _ => ⟨mAll_tr (kp_hire lim2 lim1) hall, g66, g65, g78, gf⟩, fun z => absurd (h6.symm.trans (e6 ▸ z)) (by decide), ⟨Or.inr rfl, fun z => absurd (show (1 : Int32) = 0 from z) (by decide), fun _ => ⟨?_, ?_⟩, fun _ _ => ⟨mAll_tr (kp_img hN lim1) hall, g66, g65, g78, rfl, rfl, rfl, rfl, rfl, Int.le_refl _, Int.le_refl _⟩⟩, g4a, g4b, fun w => ?_⟩
  · show xI X 14 5 = xI X 58 0
    rw [k1, k2]
  · show bnd (xI X 14 5) 0 ((h : Int) - 1)
    rw [k1]
    unfold bnd
    rw [nI_toInt (by omega)]
    omega
  · obtain ⟨u, T, B, v'⟩ := g4c w
    exact ⟨u, T, B, due_fr (X := X) (c := 0) (e := 1) (f := xJ X 85) (g := xJ X 85) (by decide) rfl rfl rfl rfl rfl rfl rfl v'⟩
set_option maxHeartbeats 1000000 in
theorem op_keep (ht : t < 600) (H : Rel L xs t n s h l X) (hK : ∀ c X1, SamS X X1 → (∀ K2 KX2, (∀ b X4, FinI L xs t c b X4 → K2 (some (vI b)) X4) → w_X12_keep tb0 [vR (some 42)] X1 K2 KX2) → K (some (vI c)) X1) : w_L_keep tb0 [vR (some 4), vR (some 91)] X K KX := by
  obtain ⟨hS, hW, hR, hT, hL, hE, hKk, hH, hC, hG⟩ := id H
  have hb := hH.2.2.2.2.1
  have hr : xI X 42 14 = xI X 14 6 := hH.2.2.2.1
  unfold bl at hb
  have z0 : nI 0 = (0 : Int32) := by decide
  have z1 : nI 1 = (1 : Int32) := by decide
  refine i_L_keep (i_X11_keep (s_hired hb (fun h6 => rV_in ?_) (fun h6 n1 hn => ?_)))
  · obtain ⟨hall, g66, g65, g78, -⟩ := hG.1 h6
    obtain ⟨lim1, lim2⟩ := m_lim hall.1
    obtain ⟨-, -, -, -, -, a6, -, -, -, -, -, -, -, -, -, -, -, a18, a19, a20, a21, -⟩ := hall.1
    have h0 := hH.2.2.2.2.2.1 h6
    obtain ⟨k1, k2, k3, k4, k5, k6, k7, k8⟩ := hH.2.2.2.2.2.2.2.2.2.2 h0
    refine s_become_24 a21 (rV_in (rI_in ⟨by unfold vp_in; decide, e_L_keep_14 (hK 0 (kpC X (xI X 14 5).toInt64) (SamS.mk rfl rfl) (fun K2 KX2 hK2 => ?_))⟩))
    refine i_X12_keep (s_rightb (by decide) (Or.inr ?_) (fun _ => rI_in ⟨fun _ => e_X12_keep_19 ?_, fun z => absurd z (by decide)⟩) (fun z => absurd z ?_))
    · show (xI X 42 14).toInt = 1
      rw [hr]; exact h6
    · have q := s_copy (X := th0 (kpC X (xI X 14 5).toInt64)) (K := fun v2 X1 => rV v2 (((1 : Int32) = 0 ∨ (1 : Int32) = 1) ∧ (vp_in 1 5 ∧ (K2 (some (vI (xI X1 58 (Int32.toNatClampNeg 1)))) (xS X1, u2 (xI X1) 42 16 1, xJ X1, xR X1, xN X1))))) (KX := KX2) (c := 0) (e := 1) (N := (xI X 15 13).toNatClampNeg) (by decide) (by decide) (by decide) (by rw [show xI (th0 (kpC X (xI X 14 5).toInt64)) 78 0 = xI X 15 14 from g78]; exact a21) (by rw [show xI (th0 (kpC X (xI X 14 5).toInt64)) 79 0 = xI X 14 11 from k5]; exact k6) (by rw [show xI (th0 (kpC X (xI X 14 5).toInt64)) 80 0 = xI X 14 12 from k7]; exact k8) (fun j hj => (hall.2.2.1 j hj).2.2) lim2 (by show xI X 69 0 = _; rw [a18]; exact nI_ofI a19) (rV_in ⟨Or.inr rfl, by unfold vp_in; decide, hK2 _ _ ⟨⟨n, s, h, l, rel_keep ht H h6 rfl⟩, rfl, fun _ => ?_⟩⟩)
      · rw [z0, z1] at q
        exact q
      · show (xI X 14 5).toInt64 = (xI X 58 0).toInt64
        rw [k1, k2]
    · show ¬ (xI X 42 14).toInt = 0
      rw [hr]; omega
  · refine ite_t rfl (gd_in (by decide) (e_L_keep_12 (hK _ _ (SamS.mk rfl rfl) (fun K2 KX2 hK2 => i_X12_keep (s_rightb (by decide) (Or.inl ?_) (fun z => absurd z ?_) (fun _ => rI_in ⟨fun z => absurd rfl z, fun _ => hK2 _ _ (fin_thr H hn _ (by decide))⟩))))))
    · show (xI X 42 14).toInt = 0
      rw [hr]; exact h6
    · show ¬ (xI X 42 14).toInt = 1
      rw [hr]; omega
end Ops
