/-! what doesn't change -/
theorem u2_hi {α : Type} {f g : Nat → Nat → α} {i k : Nat} {v : α} (hi : i < 92) (h : ∀ a, 92 ≤ a → f a = g a) : ∀ a, 92 ≤ a → u2 f i k v a = g a := fun a ha => by
  rw [u2_ne f k v (by omega)]; exact h a ha
theorem u1_hi {α : Type} {f g : Nat → α} {i : Nat} {v : α} (hi : i < 92) (h : ∀ a, 92 ≤ a → f a = g a) : ∀ a, 92 ≤ a → u1 f i v a = g a := fun a ha => by
  unfold u1; rw [if_neg (by omega)]; exact h a ha
theorem rlT_fr {n : Nat} {X X' : AX} (hI : ∀ i, 92 ≤ i → xI X' i = xI X i) (h45 : xI X' 45 = xI X 45) (h46 : xI X' 46 = xI X 46) (h8 : xR X' 8 = xR X 8) (hS : xS X' = xS X) (hN : xN X ≤ xN X') (h4 : xI X' 4 4 = xI X 4 4) (h5 : xI X' 42 5 = xI X 42 5) (h : rlT n X) : rlT n X' := by
  obtain ⟨a, b, c, d⟩ := h
  refine ⟨h4.trans a, h5.trans b, c, fun k hk => ?_⟩
  obtain ⟨e, e1, e2, e3, e4, e5, e6, e7⟩ := d k hk
  exact ⟨e, by rw [h8]; exact e1, e2, Nat.lt_of_lt_of_le e3 hN, by rw [h45, hS]; exact e4, by rw [hS]; exact e5, by rw [hI e e2]; exact e6, fun j hj => by rw [hI (e + 1) (by omega), h46]; exact e7 j hj⟩
theorem rlC_fr {h : Nat} {X X' : AX} (hI : ∀ i, 92 ≤ i → xI X' i = xI X i) (h23 : xI X' 23 = xI X 23) (h51 : xI X' 51 = xI X 51) (h52 : xI X' 52 = xI X 52) (h53 : xI X' 53 = xI X 53) (h54 : xI X' 54 = xI X 54) (h55 : xI X' 55 = xI X 55) (h10 : xR X' 4 10 = xR X 4 10) (hS : xS X' = xS X) (hN : xN X ≤ xN X') (h6 : xI X' 14 6 = xI X 14 6) (hc : rlC h X) : rlC h X' := by
  have hE : nEnd h X' = nEnd h X := by unfold nEnd; rw [h6]
  obtain ⟨rid, len, a, b, c, d, e, f, g, i, j⟩ := hc
  have hr : xI X' rid = xI X rid := by
    rcases b with b | b
    · rw [b]; exact h23
    · exact hI rid b
  refine ⟨rid, len, h10.trans a, b, Nat.lt_of_lt_of_le c hN, by unfold shp at d ⊢; rw [hS]; exact d, e, f, by rw [hE]; exact g, ?_, ?_⟩
  · rw [hE, hr, h51, h52, h53, h54]; exact i
  · rw [hE, h55]; exact j
theorem mNum_up {t m c : Nat} {X : AX} (h : mNum t m c X) : mNum (t + 1) m c X := by
  obtain ⟨a1, a2, a3, a4, a5, a6, a7, a8, a9, a10, a11, a12, a13, a14, a15, a16⟩ := h
  refine ⟨a1, a2, a3, a4, a5, a6, a7, a8, a9, a10, a11, a12, ⟨a13.1, ?_⟩, a14, ⟨a15.1, ?_⟩, a16⟩
  · have := a13.2; omega
  · have := a15.2; omega
theorem rlG_up {t n h : Nat} {X : AX} (hg : rlG t n h X) : rlG (t + 1) n h X := by
  obtain ⟨a, b, ⟨c1, c2, c3, c4⟩, d⟩ := hg
  exact ⟨fun z => ⟨⟨mNum_up (a z).1.1, (a z).1.2⟩, (a z).2⟩, fun z y => ⟨mNum_up (b z y).1, (b z y).2⟩, ⟨c1, c2, c3, fun z y => ⟨⟨mNum_up (c4 z y).1.1, (c4 z y).1.2⟩, (c4 z y).2⟩⟩, d⟩
theorem rlH_up {t h : Nat} {X : AX} (hg : rlH t h X) : rlH (t + 1) h X := ⟨hg.1, hg.2.1, Nat.le_succ_of_le hg.2.2.1, hg.2.2.2⟩
theorem rlS_n {L : Nat} {xs : Nat → Int32} {X : AX} (h : rlS L xs X) {X' : AX} (hS : xS X' = xS X) (h0 : xI X' 0 = xI X 0) (h1 : xI X' 1 = xI X 1) (h2 : xI X' 2 = xI X 2) (h3 : xI X' 3 = xI X 3) (hN : xN X ≤ xN X') : rlS L xs X' := by
  obtain ⟨a, b, c, d, e, f⟩ := h
  unfold rlS
  rw [hS, h0, h1, h2, h3]
  exact ⟨a, b, c, d, e, Nat.le_trans f hN⟩
section Fin
variable {L : Nat} {xs : Nat → Int32} {t n s h l : Nat} {X : AX}
theorem rel_thr (H : Rel L xs t n s h l X) {n1 : Nat} (hn : xN X ≤ n1) (c : Int32) : Rel L xs (t + 1) n s h l (xS X, u2 (u2 (xI X) 42 0 0) 42 0 c, xJ X, xR X, n1) := by
  obtain ⟨hS, hW, hR, hT, hL, hE, hK, hH, hC, hG⟩ := H
  exact ⟨rlS_n hS rfl rfl rfl rfl rfl hn, hW, hR, rlT_fr (u2_hi (by decide) (u2_hi (by decide) (fun _ _ => rfl))) rfl rfl rfl rfl hn rfl rfl hT, hL, hE, hK, rlH_up hH, rlC_fr (u2_hi (by decide) (u2_hi (by decide) (fun _ _ => rfl))) rfl rfl rfl rfl rfl rfl rfl rfl hn rfl hC, rlG_up hG⟩
theorem fin_thr (H : Rel L xs t n s h l X) {n1 : Nat} (hn : xN X ≤ n1) {c : Int32} (b : Int32) (hc : ¬ c = 0) : FinI L xs t c b (xS X, u2 (u2 (xI X) 42 0 0) 42 0 c, xJ X, xR X, n1) := ⟨⟨n, s, h, l, rel_thr H hn c⟩, rfl, fun z => absurd z hc⟩
theorem finL_thr (H : Rel L xs t n s h l X) {n1 : Nat} (hn : xN X ≤ n1) {c : Int32} (b : Int64) (hc : ¬ c = 0) : FinL L xs t c b (xS X, u2 (u2 (xI X) 42 0 0) 42 0 c, xJ X, xR X, n1) := ⟨⟨n, s, h, l, rel_thr H hn c⟩, rfl, fun z => absurd z hc⟩
end Fin
theorem Rel.up {L : Nat} {xs : Nat → Int32} {t n s h l : Nat} {X : AX} (H : Rel L xs t n s h l X) : Rel L xs (t + 1) n s h l X := ⟨H.1, H.2.1, H.2.2.1, H.2.2.2.1, H.2.2.2.2.1, H.2.2.2.2.2.1, H.2.2.2.2.2.2.1, rlH_up H.2.2.2.2.2.2.2.1, H.2.2.2.2.2.2.2.2.1, rlG_up H.2.2.2.2.2.2.2.2.2⟩
theorem fin_of {L : Nat} {xs : Nat → Int32} {t n s h l : Nat} {X : AX} {b : Int32} (H : Rel L xs t n s h l X) (h0 : xI X 42 0 = 0) (h1 : xJ X 91 0 = b.toInt64) : FinI L xs t 0 b X := ⟨⟨n, s, h, l, H.up⟩, h0, fun _ => h1⟩
theorem finL_of {L : Nat} {xs : Nat → Int32} {t n s h l : Nat} {X : AX} {b : Int64} (H : Rel L xs t n s h l X) (h0 : xI X 42 0 = 0) (h1 : xJ X 91 0 = b) : FinL L xs t 0 b X := ⟨⟨n, s, h, l, H.up⟩, h0, fun _ => h1⟩
theorem b_toInt {x : Int32} (h : bl x) : x.toInt = 0 ∨ x.toInt = 1 := by rcases h with e | e <;> rw [e] <;> decide
