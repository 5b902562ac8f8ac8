/-! meters beside the hire: what they leave as it was -/
section Ops
variable {L : Nat} {xs : Nat → Int32} {t n s h l : Nat} {X : AX} {K : Option AV → AX → Prop} {KX : String → AX → Prop}
variable {Y Z : AX} {m c k q d hn : Nat} {f : Nat → Int32} {bg te rd : Int32} {v : MtS}
/-- the class's side -/
def CmF (m : Nat) (X X' : AX) : Prop := xS X' = xS X ∧ xN X' = xN X ∧ (∀ i, i ≠ m → xR X' i = xR X i) ∧ (∀ i, (i < m ∨ m + 4 < i) → xI X' i = xI X i) ∧ ∀ i, i ≠ m → xJ X' i = xJ X i
theorem CmF.trans (h1 : CmF m X Y) (h2 : CmF m Y Z) : CmF m X Z := ⟨h2.1.trans h1.1, h2.2.1.trans h1.2.1, fun i hi => (h2.2.2.1 i hi).trans (h1.2.2.1 i hi), fun i hi => (h2.2.2.2.1 i hi).trans (h1.2.2.2.1 i hi), fun i hi => (h2.2.2.2.2 i hi).trans (h1.2.2.2.2 i hi)⟩
theorem CmF.of_tick (h : TkF m X Y) : CmF m X Y := ⟨h.1, h.2.2.1, fun i _ => by rw [h.2.1], h.2.2.2.1, h.2.2.2.2.2⟩
theorem CmF.of_take {e : Int32} (h : TkP m d k e X Y) : CmF m X Y := ⟨h.1, h.2.1, fun i hi => by rw [h.2.2.1, u2_ne _ _ _ hi], fun i hi => h.2.2.2.1 i (by omega), h.2.2.2.2.2.2.2.1⟩
theorem CmF.of_start {a1 a2 : Int32} (h : Std m d q k a1 a2 X Y) : CmF m X Y := ⟨h.1, h.2.1, fun i hi => by rw [h.2.2.1, u2_ne _ _ _ hi], fun i hi => h.2.2.2.2.1 i (by omega) (by omega) (by omega) (by omega) (by omega), h.2.2.2.2.2.1⟩
/-- the reference's side -/
def AmF (c : Nat) (X X' : AX) : Prop := xS X' = xS X ∧ xR X' = xR X ∧ xN X' = xN X ∧ (∀ i, i ≠ 42 → (i < 59 ∨ 84 < i) → xI X' i = xI X i) ∧ (∀ j, j ≠ 59 → j ≠ 60 → xI X' 42 j = xI X 42 j) ∧ (∀ i j, 59 ≤ i → i ≤ 80 → j ≠ c → xI X' i j = xI X i j) ∧ (∀ j, (j < 12 * c ∨ 12 * c + 12 ≤ j) → xI X' 81 j = xI X 81 j) ∧ (∀ j, (j < 3840 * c ∨ 3840 * c + 3840 ≤ j) → xI X' 82 j = xI X 82 j) ∧ (∀ j, (j < 50 * c ∨ 50 * c + 50 ≤ j) → xI X' 83 j = xI X 83 j ∧ xI X' 84 j = xI X 84 j) ∧ (∀ i, (i < 74 ∨ 77 < i) → (i < 85 ∨ 90 < i) → xJ X' i = xJ X i) ∧ (∀ i j, i < 85 → j ≠ c → xJ X' i j = xJ X i j) ∧ ∀ j, j < 80 * c ∨ 80 * c + 80 ≤ j → xJ X' 85 j = xJ X 85 j ∧ xJ X' 86 j = xJ X 86 j
theorem AmF.trans (h1 : AmF c X Y) (h2 : AmF c Y Z) : AmF c X Z := by
  obtain ⟨a1, a2, a3, a4, a5, a6, a7, a8, a9, a10, a11, a12⟩ := h1
  obtain ⟨b1, b2, b3, b4, b5, b6, b7, b8, b9, b10, b11, b12⟩ := h2
  exact ⟨b1.trans a1, b2.trans a2, b3.trans a3, fun i p q => (b4 i p q).trans (a4 i p q), fun j p q => (b5 j p q).trans (a5 j p q), fun i j p q r => (b6 i j p q r).trans (a6 i j p q r), fun j p => (b7 j p).trans (a7 j p), fun j p => (b8 j p).trans (a8 j p), fun j p => ⟨(b9 j p).1.trans (a9 j p).1, (b9 j p).2.trans (a9 j p).2⟩, fun i p q => (b10 i p q).trans (a10 i p q), fun i j p q => (b11 i j p q).trans (a11 i j p q), fun j p => ⟨(b12 j p).1.trans (a12 j p).1, (b12 j p).2.trans (a12 j p).2⟩⟩
theorem AmF.of_pass (h : PsF c X Y) : AmF c X Y := by
  obtain ⟨a1, a2, a3, a4, a5, a6, a7, a8, a9⟩ := h
  have e : ∀ i, 80 < i → xI Y i = xI X i := fun i p => a4 i (by omega) (by omega) (by omega) (by omega) (by omega) (by omega)
  exact ⟨a1, a2, a3, fun i p q => a4 i p (by omega) (by omega) (by omega) (by omega) (by omega), a5, fun i j p q r => a6 i j (by omega) r, fun j _ => by rw [e 81 (by decide)], fun j _ => by rw [e 82 (by decide)], fun j _ => ⟨by rw [e 83 (by decide)], by rw [e 84 (by decide)]⟩, fun i p q => a7 i (by omega) q, a8, a9⟩
theorem AmF.of_rowed (h : RwF c X Y) : AmF c X Y := by
  obtain ⟨a1, a2, a3, a4, a5, a6, a7, a8, a9, a10⟩ := h
  have e : ∀ i, 80 < i → i ≠ 82 → xI Y i = xI X i := fun i p q => a4 i (by omega) (by omega) (by omega) (by omega) (by omega) (by omega) (by omega) (by omega) q
  exact ⟨a1, a2, a3, fun i p q => a4 i p (by omega) (by omega) (by omega) (by omega) (by omega) (by omega) (by omega) (by omega), a5, fun i j p q r => a6 i j (by omega) (by omega) r, fun j _ => by rw [e 81 (by decide) (by decide)], a10, fun j _ => ⟨by rw [e 83 (by decide) (by decide)], by rw [e 84 (by decide) (by decide)]⟩, fun i p q => a7 i (by omega) q, a8, a9⟩
theorem AmF.of_puts (hk : k < 12) (hh : hn < 50) (h : PtP c k hn X Y) : AmF c X Y := by
  obtain ⟨a1, a2, a3, a4, a5, a6, a7, a8, a9, a10, a11, a12, a13, a14, a15⟩ := h
  refine ⟨a1, a3, a2, fun i p q => a4 i (by omega) (by omega) (by omega) (by omega) (by omega), fun j _ _ => by rw [a4 42 (by decide) (by decide) (by decide) (by decide) (by decide)], fun i j p q r => ?_, fun j p => a7 j (by omega), fun j _ => by rw [a4 82 (by decide) (by decide) (by decide) (by decide) (by decide)], fun j p => ⟨?_, ?_⟩, fun i p q => a12 i (by omega) (by omega), fun i j p q => a13 i j q, fun j _ => ⟨by rw [a12 85 (by decide) (by decide)], by rw [a12 86 (by decide) (by decide)]⟩⟩
  · by_cases e : i = 64
    · rw [e, a5, stf_ne _ _ r]
    · by_cases e2 : i = 70
      · rw [e2, a6, stf_ne _ _ r]
      · rw [a4 i e e2 (by omega) (by omega) (by omega)]
  · rw [a10, stf_ne _ _ (by omega)]
  · rw [a11, stf_ne _ _ (by omega)]
theorem AmF.of_begins {z tm : Int32} (h : Bgn c k q z tm X Y) : AmF c X Y := by
  obtain ⟨a1, a2, a3, a4, a5, a6, a7, a8, -⟩ := h
  exact ⟨a1, a3, a2, fun i p q => a4 i (by omega) (by omega), fun j _ _ => by rw [a4 42 (by decide) (by decide)], fun i j p q r => a6 i j r p q, a8, fun j _ => by rw [a4 82 (by decide) (by decide)], fun j _ => ⟨by rw [a4 83 (by decide) (by decide)], by rw [a4 84 (by decide) (by decide)]⟩, fun i p q => a5 i p, fun i j p q => a7 i j q, fun j _ => ⟨by rw [a5 85 (by decide)], by rw [a5 86 (by decide)]⟩⟩
/-- both sides, from before the call to behind it -/
def FrA (m c : Nat) (X Y : AX) : Prop := xS Y = xS X ∧ xN Y = xN X ∧ (∀ i, i ≠ m → xR Y i = xR X i) ∧ (∀ i, (i < m ∨ m + 4 < i) → i ≠ 4 → i ≠ 42 → (i < 59 ∨ 84 < i) → xI Y i = xI X i) ∧ (∀ j, j ≠ 16 → xI Y 4 j = xI X 4 j) ∧ (∀ j, j ≠ 0 → j ≠ 17 → j ≠ 59 → j ≠ 60 → xI Y 42 j = xI X 42 j) ∧ (∀ i j, 59 ≤ i → i ≤ 80 → j ≠ c → xI Y i j = xI X i j) ∧ (∀ j, (j < 12 * c ∨ 12 * c + 12 ≤ j) → xI Y 81 j = xI X 81 j) ∧ (∀ j, (j < 3840 * c ∨ 3840 * c + 3840 ≤ j) → xI Y 82 j = xI X 82 j) ∧ (∀ j, (j < 50 * c ∨ 50 * c + 50 ≤ j) → xI Y 83 j = xI X 83 j ∧ xI Y 84 j = xI X 84 j) ∧ (∀ i, i ≠ m → i ≠ 91 → (i < 74 ∨ 77 < i) → (i < 85 ∨ 90 < i) → xJ Y i = xJ X i) ∧ (∀ i j, i ≠ m → i < 85 → j ≠ c → xJ Y i j = xJ X i j) ∧ ∀ j, j < 80 * c ∨ 80 * c + 80 ≤ j → xJ Y 85 j = xJ X 85 j ∧ xJ Y 86 j = xJ X 86 j
theorem fra_of {v : Int64} {X1 : AX} (hm : 28 < m ∧ m < 38) (h1 : CmF m X X1) (h2 : AmF c (bw X1 v) Y) : FrA m c X Y := by
  obtain ⟨a1, a2, a3, a4, a5⟩ := h1
  obtain ⟨b1, b2, b3, b4, b5, b6, b7, b8, b9, b10, b11, b12⟩ := h2
  have e : ∀ i, (i < m ∨ m + 4 < i) → i ≠ 42 → xI (bw X1 v) i = xI X i := fun i p q => by
    show u2 (xI X1) 42 0 0 i = _
    rw [u2_ne _ _ _ q]; exact a4 i p
  have g : ∀ i, i ≠ m → i ≠ 91 → xJ (bw X1 v) i = xJ X i := fun i p q => by
    show u2 (xJ X1) 91 0 v i = _
    rw [u2_ne _ _ _ q]; exact a5 i p
  refine ⟨b1.trans a1, b3.trans a2, fun i p => by rw [b2]; exact a3 i p, fun i p q r w => (b4 i r w).trans (e i p r), fun j _ => by rw [b4 4 (by decide) (by decide), e 4 (by omega) (by decide)], fun j p q r w => ?_, fun i j p q r => (b6 i j p q r).trans (by rw [e i (by omega) (by omega)]), fun j p => (b7 j p).trans (by rw [e 81 (by omega) (by decide)]), fun j p => (b8 j p).trans (by rw [e 82 (by omega) (by decide)]), fun j p => ⟨(b9 j p).1.trans (by rw [e 83 (by omega) (by decide)]), (b9 j p).2.trans (by rw [e 84 (by omega) (by decide)])⟩, fun i p q r w => (b10 i r w).trans (g i p q), fun i j p q r => (b11 i j q r).trans (by rw [g i p (by omega)]), fun j p => ⟨(b12 j p).1.trans (by rw [g 85 (by omega) (by decide)]), (b12 j p).2.trans (by rw [g 86 (by omega) (by decide)])⟩⟩
  rw [b5 j r w]
  show u2 (xI X1) 42 0 0 42 j = _
  rw [u2_at, if_neg p, a4 42 (by omega)]
set_option maxHeartbeats 1000000 in
theorem rel_am (H : Rel L xs t n s h l X) (hm : 28 < m ∧ m < 38) (hc : 2 < c ∧ c < 5) (hF : FrA m c X Y) (hdue : xI Y 42 17 = xI Y 4 16 ∧ bl (xI Y 4 16) ∧ (xI Y 4 16 = 1 → (xI Y 67 4 = xI Y 37 7 ∧ bnd (xI Y 37 7) 0 2000000) ∧ ∃ T B, mFrac 37 4 T B Y)) (h34 : m = 29 ∨ m = 37) : Rel L xs (t + 1) n s h l Y := by
  obtain ⟨hS, hW, hR, hT, hL, hE, hKk, hH, hC, hG⟩ := H
  obtain ⟨b1, b2, b3, b4, b5, b6, b7, b8, b9, b10, b11, b12, b13⟩ := hF
  have rI' : ∀ i, (i < 28 ∨ (33 < i ∧ i < 37) ∨ 41 < i) → i ≠ 4 → i ≠ 42 → (i < 59 ∨ 84 < i) → xI Y i = xI X i := fun i p q r w => b4 i (by omega) q r w
  have hi : ∀ i, 92 ≤ i → xI Y i = xI X i := fun i p => rI' i (by omega) (by omega) (by omega) (by omega)
  have c0 : ∀ i, 59 ≤ i → i ≤ 80 → xI Y i 0 = xI X i 0 := fun i p q => b7 i 0 p q (by omega)
  have c1 : ∀ i, 59 ≤ i → i ≤ 80 → xI Y i 1 = xI X i 1 := fun i p q => b7 i 1 p q (by omega)
  have c2 : ∀ i, 59 ≤ i → i ≤ 80 → xI Y i 2 = xI X i 2 := fun i p q => b7 i 2 p q (by omega)
  obtain ⟨g1, g2, ⟨g3a, g3b, g3c, g3d⟩, g4⟩ := rlG_up hG
  have z14 : xI Y 14 = xI X 14 := (rI' 14 (by decide) (by decide) (by decide) (by decide))
  have z24 : ∀ i, 24 ≤ i → i ≤ 27 → xI Y i = xI X i := fun i p q => rI' i (by omega) (by omega) (by omega) (by omega)
  have z15 : ∀ i, 15 ≤ i → i ≤ 19 → xI Y i = xI X i := fun i p q => rI' i (by omega) (by omega) (by omega) (by omega)
  have xx : ∀ {c' : Nat}, c' ≤ 2 → ∀ M, (M = 15 ∨ M = 24) → (xI X M 13).toNatClampNeg ≤ 3840 → (xI X M 12).toNatClampNeg ≤ 50 → mEq M c' X M c' Y := fun {c'} hc' M hM l1 l2 => by
    have iM : ∀ i, M ≤ i → i ≤ M + 3 → xI Y i = xI X i := fun i p q => rI' i (by omega) (by omega) (by omega) (by omega)
    have jM : xJ Y M = xJ X M := b11 M (by omega) (by omega) (by omega) (by omega)
    refine ⟨fun j _ _ _ => by rw [iM M (by omega) (by omega)], ⟨by rw [jM], by rw [jM]⟩, by rw [b3 M (by omega)], ⟨by rw [iM (M + 1) (by omega) (by omega)], fun j _ => ⟨by rw [iM (M + 1 + 1) (by omega) (by omega)], by rw [iM (M + 1 + 2) (by omega) (by omega)]⟩⟩, fun i p q _ _ _ => b7 i c' p (by omega) (by omega), fun i p q => b12 i c' (by omega) (by omega) (by omega), fun j hj => b8 _ (by omega), fun j hj => ⟨b9 _ (by omega), by rw [(rI' 20 (by decide) (by decide) (by decide) (by decide))]⟩, fun j hj => ⟨(b10 _ (by omega)).1, (b10 _ (by omega)).2, by rw [(rI' 21 (by decide) (by decide) (by decide) (by decide))], by rw [b3 22 (by omega)]⟩, fun j hj => b13 _ (by omega), (rI' 45 (by decide) (by decide) (by decide) (by decide)), (rI' 46 (by decide) (by decide) (by decide) (by decide)), b3 8 (by omega)⟩
  refine ⟨rlS_n hS b1 (rI' 0 (by decide) (by decide) (by decide) (by decide)) (rI' 1 (by decide) (by decide) (by decide) (by decide)) (rI' 2 (by decide) (by decide) (by decide) (by decide)) (rI' 3 (by decide) (by decide) (by decide) (by decide)) (by omega), rlW_fr (b5 0 (by decide)) (b5 1 (by decide)) (b6 1 (by decide) (by decide) (by decide) (by decide)) (b6 2 (by decide) (by decide) (by decide) (by decide)) hW, rlR_fr (rI' 6 (by decide) (by decide) (by decide) (by decide)) (rI' 7 (by decide) (by decide) (by decide) (by decide)) (rI' 43 (by decide) (by decide) (by decide) (by decide)) (rI' 44 (by decide) (by decide) (by decide) (by decide)) hR, rlT_fr hi (rI' 45 (by decide) (by decide) (by decide) (by decide)) (rI' 46 (by decide) (by decide) (by decide) (by decide)) (b3 8 (by omega)) b1 (by omega) (b5 4 (by decide)) (b6 5 (by decide) (by decide) (by decide) (by decide)) hT, rlL_fr (rI' 9 (by decide) (by decide) (by decide) (by decide)) (rI' 10 (by decide) (by decide) (by decide) (by decide)) (rI' 47 (by decide) (by decide) (by decide) (by decide)) (rI' 48 (by decide) (by decide) (by decide) (by decide)) hL, rlE_fr (by rw [(rI' 11 (by decide) (by decide) (by decide) (by decide))]) (b6 6 (by decide) (by decide) (by decide) (by decide)) (rI' 12 (by decide) (by decide) (by decide) (by decide)) (rI' 13 (by decide) (by decide) (by decide) (by decide)) (rI' 49 (by decide) (by decide) (by decide) (by decide)) (rI' 50 (by decide) (by decide) (by decide) (by decide)) hE, rlK_fr (by rw [(rI' 34 (by decide) (by decide) (by decide) (by decide))]) (by rw [(rI' 34 (by decide) (by decide) (by decide) (by decide))]) (b6 25 (by decide) (by decide) (by decide) (by decide)) (rI' 35 (by decide) (by decide) (by decide) (by decide)) (rI' 36 (by decide) (by decide) (by decide) (by decide)) (rI' 56 (by decide) (by decide) (by decide) (by decide)) (rI' 57 (by decide) (by decide) (by decide) (by decide)) hKk, rlH_fr (b5 9 (by decide)) z14 (fun j hj => b6 j (by omega) (by omega) (by omega) (by omega)) (fun i hi' => ?_) (rlH_up hH), rlC_fr hi (rI' 23 (by decide) (by decide) (by decide) (by decide)) (rI' 51 (by decide) (by decide) (by decide) (by decide)) (rI' 52 (by decide) (by decide) (by decide) (by decide)) (rI' 53 (by decide) (by decide) (by decide) (by decide)) (rI' 54 (by decide) (by decide) (by decide) (by decide)) (rI' 55 (by decide) (by decide) (by decide) (by decide)) (by rw [b3 4 (by omega)]) b1 (by omega) (by rw [z14]) hC, ?_⟩
  · by_cases e : i = 58
    · rw [e, (rI' 58 (by decide) (by decide) (by decide) (by decide))]
    · exact c0 i (by omega) (by omega)
  · refine ⟨?_, ?_, ⟨?_, ?_, ?_, ?_⟩, hdue⟩
    · rw [z14]
      intro z
      obtain ⟨hall, g66, g65, g78, gf, g79⟩ := g1 z
      obtain ⟨l1, l2⟩ := m_lim hall.1
      refine ⟨mAll_tr (xx (by decide) 15 (Or.inl rfl) l2 l1) hall, ?_, ?_, ?_, ?_, ?_⟩
      · rw [c0 66 (by decide) (by decide), b5 1 (by decide)]; exact g66
      · rw [c0 65 (by decide) (by decide), b5 0 (by decide)]; exact g65
      · rw [c0 78 (by decide) (by decide), z15 15 (by decide) (by decide)]; exact g78
      · rw [b3 14 (by omega), b3 8 (by omega), c0 63 (by decide) (by decide)]; exact gf
      · rw [c0 79 (by decide) (by decide)]; exact g79
    · rw [z14]
      intro z z0
      obtain ⟨f1, f2, f3, f4, ⟨T, B, f5⟩, f6, f7, f8, f9, f10, f11, f12, f13, f14, f15, f16, f17, f18⟩ := g2 z z0
      obtain ⟨l1, l2⟩ := m_lim f1
      have e := xx (c' := 0) (by decide) 15 (Or.inl rfl) l2 l1
      refine ⟨mNum_tr e f1, mTar_tr e f2, mHand_tr e f3, mDark_tr e f4, ⟨T, B, mFrac_tr e f5⟩, ?_, ?_, ?_, ?_, ?_, ?_, ?_, ?_, ?_, ?_, trivial, trivial, fun k hk => ⟨?_, ?_⟩⟩
      · rw [b3 14 (by omega), b3 8 (by omega), c0 63 (by decide) (by decide)]; exact f6
      · rw [c0 63 (by decide) (by decide), c2 63 (by decide) (by decide)]; exact f7
      · rw [c0 60 (by decide) (by decide), c2 60 (by decide) (by decide)]; exact f8
      · rw [c0 61 (by decide) (by decide), c2 61 (by decide) (by decide)]; exact f9
      · rw [c0 62 (by decide) (by decide), c2 62 (by decide) (by decide)]; exact f10
      · rw [c0 59 (by decide) (by decide), c2 59 (by decide) (by decide)]; exact f11
      · rw [c0 70 (by decide) (by decide), c2 70 (by decide) (by decide)]; exact f12
      · rw [b12 77 2 (by omega) (by decide) (by omega), b12 77 0 (by omega) (by decide) (by omega)]; exact f13
      · rw [b12 75 2 (by omega) (by decide) (by omega), b12 75 0 (by omega) (by decide) (by omega)]; exact f14
      · rw [c0 80 (by decide) (by decide), c2 80 (by decide) (by decide)]; exact f15
      · rw [(b10 (50 * 2 + k) (by omega)).1, (b10 (50 * 0 + k) (by omega)).1]; exact (f18 k hk).1
      · rw [(b10 (50 * 2 + k) (by omega)).2, (b10 (50 * 0 + k) (by omega)).2]; exact (f18 k hk).2
    · rw [b6 16 (by decide) (by decide) (by decide) (by decide)]; exact g3a
    · rw [b6 16 (by decide) (by decide) (by decide) (by decide), b5 12 (by decide)]; exact g3b
    · rw [b6 16 (by decide) (by decide) (by decide) (by decide), b5 12 (by decide), (rI' 58 (by decide) (by decide) (by decide) (by decide))]; exact g3c
    · rw [z14, b5 12 (by decide)]
      intro z z2
      obtain ⟨iall, i66, i65, i78, i63, i60, i61, i79, i80, i12, i13⟩ := g3d z z2
      obtain ⟨l1, l2⟩ := m_lim iall.1
      refine ⟨mAll_tr (xx (by decide) 24 (Or.inr rfl) l2 l1) iall, ?_, ?_, ?_, ?_, ?_, ?_, ?_, ?_, ?_, ?_⟩
      · rw [c1 66 (by decide) (by decide), b5 1 (by decide)]; exact i66
      · rw [c1 65 (by decide) (by decide), b5 0 (by decide)]; exact i65
      · rw [c1 78 (by decide) (by decide), z24 24 (by decide) (by decide)]; exact i78
      · rw [c1 63 (by decide) (by decide), c0 63 (by decide) (by decide)]; exact i63
      · rw [c1 60 (by decide) (by decide), c0 60 (by decide) (by decide)]; exact i60
      · rw [c1 61 (by decide) (by decide), c0 61 (by decide) (by decide)]; exact i61
      · rw [c1 79 (by decide) (by decide), c0 79 (by decide) (by decide)]; exact i79
      · rw [c1 80 (by decide) (by decide), c0 80 (by decide) (by decide)]; exact i80
      · rw [z24 24 (by decide) (by decide), z15 15 (by decide) (by decide)]; exact i12
      · rw [z24 24 (by decide) (by decide), z15 15 (by decide) (by decide)]; exact i13
/-- a meter that has just started -/
def st0 (f : Nat → Int32) (k q : Nat) : MtS := mkS 0 0 ((f (15 * k + 0)).toInt64 + (eOf q (f (15 * k + 14))).toInt64) 0 (f (15 * k + 1) - 1) 0 1
theorem rep_start (hf : ∀ j, j < 15 → xI X (d + 1) j = f (15 * k + j)) (h : Std m d q k bg te X Y) : cRep m d n f bg te rd (st0 f k q) Y ∧ xI Y m 9 = eOf q (f (15 * k + 14)) ∧ xI Y m 12 = 0 ∧ ∀ j, bitc (xI Y m 11) j = decide (j = k) ∨ 12 ≤ k := by
  obtain ⟨a1, a2, a3, aP, aI, aJ, b2, b3, b4, b7, b8, b9, b10, b11, b12, b13, b14, b5, b6⟩ := h
  refine ⟨⟨b2, b3, b4, ?_, ?_, b7, ?_, ?_, ?_, 0, 1, aP, ?_, ?_⟩, ?_, b12, fun j => ?_⟩
  · rw [b5]
    show (0 : Int64) = 0 * rd.toInt64
    rw [Int64.zero_mul]
  · rw [b6, hf 0 (by decide), hf 14 (by decide)]; try rfl
  · rw [b8, hf 1 (by decide)]; try rfl
  · rw [a3, u2_at, if_pos rfl]
  · show (0 : Int) < 1
    decide
  · exact Int.one_dvd _
  · show (0 : Int) * 1 = 0 * 1
    rfl
  · rw [b9, hf 14 (by decide), Int32.zero_add]
  · rcases Nat.lt_or_ge k 12 with g | g
    · left
      rw [b11, mkB_or g]
      have : bitc 0 j = false := by
        unfold bitc
        simp
      rw [this, Bool.false_or]
    · exact Or.inr g
theorem rep_begins {z tm rd' te' : Int32} (hf : ∀ j, j < 15 → xI X 46 (15 * k + j) = f (15 * k + j)) (h : Bgn c k q z tm X Y) (h65 : xI X 42 1 = rd') (h66 : xI X 42 2 = te') : mRep c k n f tm te' rd' (st0 f k q) Y ∧ xJ Y 76 c = (eOf q (f (15 * k + 14))).toInt64 ∧ xI Y 70 c = 0 ∧ xI Y 69 c = 0 ∧ (∀ j, j < 12 → xI Y 81 (12 * c + j) = if j = k ∧ q = 4 then 1 else 0) ∧ xI Y 60 c = z := by
  obtain ⟨e1, e2, e3, eI, eJ, eIj, eJj, e81x, d59, d60, d61, d62, d63, d64, d65, d66, d67, d68, d69, d70, d72, d73, d78, d79, d80, d74, d75, d76, d77, d81⟩ := h
  have z0 : nI 0 = (0 : Int32) := by decide
  have e0 : (0 : Int32).toInt = 0 := by decide
  refine ⟨⟨d62, d66.trans h66, d65.trans h65, d64, d59, d74, ?_, d67, ?_, ?_, 0, by decide, by rw [d73, z0], fun i hi => absurd hi (Nat.not_lt_zero _), ?_, ?_, fun i hi => absurd hi (Nat.not_lt_zero _), fun i j _ hj => absurd hj (Nat.not_lt_zero _)⟩, ?_, d70, d69, d81, d60⟩
  · rw [d75, hf 0 (by decide), hf 14 (by decide)]; try rfl
  · rw [d68, hf 1 (by decide)]; try rfl
  · show (0 : Int) < 1
    decide
  · rw [d72, e0]; try rfl
  · rw [d72]
    unfold bnd
    rw [e0]; omega
  · rw [d76, hf 14 (by decide)]
end Ops
