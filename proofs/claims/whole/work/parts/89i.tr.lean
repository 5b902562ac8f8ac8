/-! a meter that agrees, carried over to another place or state -/
section Tr
variable {t n m c m' c' : Nat} {X Y : AX} {α : Type}
theorem blk_at (f : Nat → α) {m c e n j : Nat} (h : j < n) : blk f m c e n (m * e + j) = f (m * c + j) := by
  unfold blk
  rw [if_pos ⟨by omega, by omega⟩]
  congr 1; omega
theorem blk_out (f : Nat → α) {m c e n j : Nat} (h : j < m * e ∨ m * e + n ≤ j) : blk f m c e n j = f j := by
  unfold blk
  exact if_neg (by omega)
/-- the cells of a meter and of its place in the reference -/
def mEq (m c : Nat) (X : AX) (m' c' : Nat) (Y : AX) : Prop :=
  (∀ j, 2 ≤ j → j ≤ 14 → (j ≠ 5 ∧ j ≠ 6) → xI Y m' j = xI X m j) ∧ (xJ Y m' 5 = xJ X m 5 ∧ xJ Y m' 6 = xJ X m 6) ∧ xR Y m' 1 = xR X m 1 ∧
  (xI Y (m' + 1) 3 = xI X (m + 1) 3 ∧ ∀ j, j < 24 → xI Y (m' + 1 + 1) j = xI X (m + 1 + 1) j ∧ xI Y (m' + 1 + 2) j = xI X (m + 1 + 2) j) ∧
  (∀ i, 59 ≤ i → i ≤ 73 → i ≠ 60 → i ≠ 61 → i ≠ 71 → xI Y i c' = xI X i c) ∧ (∀ i, 74 ≤ i → i ≤ 77 → xJ Y i c' = xJ X i c) ∧
  (∀ j, j < 12 → xI Y 81 (12 * c' + j) = xI X 81 (12 * c + j)) ∧
  (∀ j, j < (xI X m 13).toNatClampNeg → xI Y 82 (3840 * c' + j) = xI X 82 (3840 * c + j) ∧ xI Y 20 j = xI X 20 j) ∧
  (∀ j, j < (xI X m 12).toNatClampNeg → xI Y 83 (50 * c' + j) = xI X 83 (50 * c + j) ∧ xI Y 84 (50 * c' + j) = xI X 84 (50 * c + j) ∧ xI Y 21 j = xI X 21 j ∧ xR Y 22 j = xR X 22 j) ∧
  (∀ j, j < 80 → xJ Y 85 (80 * c' + j) = xJ X 85 (80 * c + j) ∧ xJ Y 86 (80 * c' + j) = xJ X 86 (80 * c + j)) ∧
  (xI Y 45 = xI X 45 ∧ xI Y 46 = xI X 46 ∧ xR Y 8 = xR X 8)
theorem mNum_tr (h : mEq m c X m' c' Y) (w : mNum t m c X) : mNum t m' c' Y := by
  obtain ⟨a, ⟨b5, b6⟩, -, -, e, f, -⟩ := h
  unfold mNum at w ⊢
  rw [e 62 (by decide) (by decide) (by decide) (by decide) (by decide), e 66 (by decide) (by decide) (by decide) (by decide) (by decide), e 59 (by decide) (by decide) (by decide) (by decide) (by decide), e 65 (by decide) (by decide) (by decide) (by decide) (by decide), e 67 (by decide) (by decide) (by decide) (by decide) (by decide), e 68 (by decide) (by decide) (by decide) (by decide) (by decide), e 70 (by decide) (by decide) (by decide) (by decide) (by decide), e 69 (by decide) (by decide) (by decide) (by decide) (by decide), f 74 (by decide) (by decide), f 75 (by decide) (by decide), f 76 (by decide) (by decide), f 77 (by decide) (by decide), b5, b6, a 2 (by decide) (by decide) (by decide), a 3 (by decide) (by decide) (by decide), a 4 (by decide) (by decide) (by decide), a 7 (by decide) (by decide) (by decide), a 8 (by decide) (by decide) (by decide), a 9 (by decide) (by decide) (by decide), a 10 (by decide) (by decide) (by decide), a 12 (by decide) (by decide) (by decide), a 13 (by decide) (by decide) (by decide), a 14 (by decide) (by decide) (by decide)]
  exact w
theorem mTar_tr (h : mEq m c X m' c' Y) (w : mTar n m c X) : mTar n m' c' Y := by
  obtain ⟨-, -, r, -, e, -, -, -, -, -, -, -, r8⟩ := h
  unfold mTar at w ⊢
  rw [e 64 (by decide) (by decide) (by decide) (by decide) (by decide), e 63 (by decide) (by decide) (by decide) (by decide) (by decide), r, r8]
  exact w
theorem mCall_tr (h : mEq m c X m' c' Y) (w : mCall n m c X) : mCall n m' c' Y := by
  obtain ⟨a, -, -, -, -, -, g, -, -, -, q45, -, -⟩ := h
  intro k hk
  rw [a 11 (by decide) (by decide) (by decide), g k hk, q45]
  exact w k hk
theorem hTo_tr (h : mEq m c X m' c' Y) : ∀ {k}, k ≤ (xI X m 12).toNatClampNeg → hTo c' Y k = hTo c X k
  | 0, _ => h.2.2.2.2.1 63 (by decide) (by decide) (by decide) (by decide) (by decide)
  | k + 1, hk => (h.2.2.2.2.2.2.2.2.1 k hk).2.1
theorem mHand_tr (h : mEq m c X m' c' Y) (w : mHand n m c X) : mHand n m' c' Y := by
  have e12 := h.1 12 (by decide) (by decide) (by decide)
  have e64 := h.2.2.2.2.1 64 (by decide) (by decide) (by decide) (by decide) (by decide)
  have r8 := h.2.2.2.2.2.2.2.2.2.2.2.2
  obtain ⟨w1, w2⟩ := w
  refine ⟨fun k hk => ?_, ?_⟩
  · rw [e12] at hk
    obtain ⟨g1, g2, g3, g4⟩ := h.2.2.2.2.2.2.2.2.1 k hk
    rw [g1, g2, g3, g4, hTo_tr h (show k + 1 ≤ _ from hk), hTo_tr h (show k ≤ _ by omega), r8]
    exact w1 k hk
  · rw [e12, e64, hTo_tr h (Nat.le_refl _)]; exact w2
theorem mDark_tr (h : mEq m c X m' c' Y) (w : mDark m c X) : mDark m' c' Y := by
  intro k hk
  rw [h.1 13 (by decide) (by decide) (by decide)] at hk
  obtain ⟨g1, g2⟩ := h.2.2.2.2.2.2.2.1 k hk
  rw [g1, g2]; exact w k hk
theorem Pt_tr {p p' : Nat} {T B : Int} (a : xI Y p' 3 = xI X p 3) (b : ∀ j, j < 24 → xI Y (p' + 1) j = xI X (p + 1) j ∧ xI Y (p' + 2) j = xI X (p + 2) j) (w : Pt p X T B) : Pt p' Y T B := by
  obtain ⟨k, h1, h2, h3, h4, h5, h6, h7, h8, h9⟩ := w
  refine ⟨k, h1, h2, a.trans h3, fun i hi => ?_, fun i hi => ?_, fun i q1 q2 => ?_, ?_, ?_, h9⟩
  · rw [(b i hi).1]; exact h4 i hi
  · rw [(b i hi).2]; exact h5 i hi
  · rw [(b i q2).1, (b i q2).2]; exact h6 i q1 q2
  · rw [← h7]; exact lv_cong (fun i hi => (b i (by omega)).1)
  · rw [← h8]; exact lv_cong (fun i hi => (b i (by omega)).2)
theorem mFrac_tr {T B : Int} (h : mEq m c X m' c' Y) (w : mFrac m c T B X) : mFrac m' c' T B Y := by
  obtain ⟨-, -, -, ⟨d1, d2⟩, e, -, -, -, -, g, -⟩ := h
  obtain ⟨w1, w2, p, w3, w4, w5, w6, w7⟩ := w
  have cg : ∀ k, k < p → cOv c X k = cOv c' Y k ∧ cUn c X k = cUn c' Y k := fun k hk => ⟨(g k (by omega)).1.symm, (g k (by omega)).2.symm⟩
  obtain ⟨q1, q2⟩ := fN_cong cg
  refine ⟨Pt_tr d1 d2 w1, w2, p, w3, ?_, goodP_cong cg w5, ?_, ?_⟩
  · rw [e 73 (by decide) (by decide) (by decide) (by decide) (by decide)]; exact w4
  · rw [← q1, ← q2, e 72 (by decide) (by decide) (by decide) (by decide) (by decide)]; exact w6
  · rw [e 72 (by decide) (by decide) (by decide) (by decide) (by decide)]; exact w7
theorem mDen_tr {T B : Int} (h : mEq m c X m' c' Y) (w0 : mFrac m c T B X) (w : mDen n m c B X) : mDen n m' c' B Y := by
  obtain ⟨a, -, -, -, e, -, -, -, -, g, -, q46, -⟩ := h
  obtain ⟨-, -, p, hp8, hp, -⟩ := w0
  have e73 := e 73 (by decide) (by decide) (by decide) (by decide) (by decide)
  have hp' : (xI X 73 c).toNatClampNeg = p := by rw [hp]; exact nI_clamp (by omega)
  have cg : ∀ k, k < p → cUn c' Y k = cUn c X k := fun k hk => (g k (by omega)).2
  obtain ⟨w1, w2, w3⟩ := w
  rw [hp'] at w2 w3
  refine ⟨?_, fun i hi => ?_, fun i j hij hj => ?_⟩
  · rw [a 3 (by decide) (by decide) (by decide), q46]; exact w1
  · rw [e73, hp'] at hi
    rw [cg i hi, a 3 (by decide) (by decide) (by decide), q46]; exact w2 i hi
  · rw [e73, hp'] at hj
    rw [cg i (by omega), cg j hj]; exact w3 i j hij hj
theorem mAll_tr (h : mEq m c X m' c' Y) (w : mAll t n m c X) : mAll t n m' c' Y := by
  obtain ⟨w1, w2, w3, w4, w5, T, B, w6, w7⟩ := w
  exact ⟨mNum_tr h w1, mTar_tr h w2, mCall_tr h w3, mHand_tr h w4, mDark_tr h w5, T, B, mFrac_tr h w6, mDen_tr h w6 w7⟩
theorem bcI_hi (f : Nat → Nat → Int32) {d s : Nat} (hd : d + 3 < 92) : ∀ a, 92 ≤ a → bcI f d s a = f a := fun a ha => by
  unfold bcI
  rw [u2_ne _ _ _ (by omega), u2_ne _ _ _ (by omega), u2_ne _ _ _ (by omega), u2_ne _ _ _ (by omega), u2_ne _ _ _ (by omega), u2_ne _ _ _ (by omega), u2_ne _ _ _ (by omega), u2_ne _ _ _ (by omega), u2_ne _ _ _ (by omega), u2_ne _ _ _ (by omega), u2_ne _ _ _ (by omega), u2_ne _ _ _ (by omega)]
  funext k
  unfold bcP
  rw [if_neg (by omega), if_neg (by omega)]
theorem cpX_hi (X : AX) (c e N : Nat) : ∀ a, 92 ≤ a → xI (cpX X c e N) a = xI X a := by
  unfold cpX cp4 cp3 cp2 cp1 cpS
  exact u1_hi (by decide) (u1_hi (by decide) (u1_hi (by decide) (u1_hi (by decide) (u2_hi (by decide) (u2_hi (by decide) (u2_hi (by decide) (u2_hi (by decide) (u2_hi (by decide) (u2_hi (by decide) (u2_hi (by decide) (u2_hi (by decide) (u2_hi (by decide) (u2_hi (by decide) (u2_hi (by decide) (u2_hi (by decide) (u2_hi (by decide) (u2_hi (by decide) (u2_hi (by decide) (u2_hi (by decide) (u2_hi (by decide) (u2_hi (by decide) (fun _ _ => rfl))))))))))))))))))))))
end Tr
