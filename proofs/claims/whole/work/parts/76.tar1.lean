/-! tariff -/
def lw (X : AX) : AX := (fun _ => (0, 0), fun i => if i < 92 then xI X i else fun _ => 0, fun i => if i < 92 then xJ X i else fun _ => 0, fun i => if i < 92 then xR X i else fun _ => none, 0)
theorem lw_eq {X X' : AX} (h : ∀ i, i < 92 → xI X' i = xI X i ∧ xJ X' i = xJ X i ∧ xR X' i = xR X i) : lw X' = lw X := by
  unfold lw
  congr 2
  · funext i
    by_cases c : i < 92
    · rw [if_pos c, if_pos c]; exact (h i c).1
    · rw [if_neg c, if_neg c]
  · congr 1
    · funext i
      by_cases c : i < 92
      · rw [if_pos c, if_pos c]; exact (h i c).2.1
      · rw [if_neg c, if_neg c]
    · congr 1
      funext i
      by_cases c : i < 92
      · rw [if_pos c, if_pos c]; exact (h i c).2.2
      · rw [if_neg c, if_neg c]
theorem lw_tr {P : AX → Prop} {X X' : AX} (e : lw X' = lw X) (h : P (lw X)) : P (lw X') := e ▸ h
theorem lw_W {X X' : AX} (e : lw X' = lw X) (h : rlW X) : rlW X' := lw_tr (P := rlW) e h
theorem lw_R {X X' : AX} (e : lw X' = lw X) (h : rlR X) : rlR X' := lw_tr (P := rlR) e h
theorem lw_L {n s : Nat} {X X' : AX} (e : lw X' = lw X) (h : rlL n s X) : rlL n s X' := lw_tr (P := rlL n s) e h
theorem lw_E {s : Nat} {X X' : AX} (e : lw X' = lw X) (h : rlE s X) : rlE s X' := lw_tr (P := rlE s) e h
theorem lw_K {l : Nat} {X X' : AX} (e : lw X' = lw X) (h : rlK l X) : rlK l X' := lw_tr (P := rlK l) e h
theorem lw_H {t h : Nat} {X X' : AX} (e : lw X' = lw X) (hh : rlH t h X) : rlH t h X' := lw_tr (P := rlH t h) e hh
theorem lw_G {t n h : Nat} {X X' : AX} (e : lw X' = lw X) (hh : rlG t n h X) : rlG t n h X' := lw_tr (P := rlG t n h) e hh
/-- the ints, as they are after the call, of X's -/
def tI (F : Nat → Nat → Int32) (n : Nat) (k : Int32) (g : Nat → Int32) : Nat → Nat → Int32 := u2 (u1 (u2 (u2 (u2 F 4 4 (nI n + 1)) 42 0 0) 45 n k) 46 g) 42 5 (nI n + 1)
theorem rlG_tar {t n h : Nat} {X : AX} {S : Nat → Nat × Nat} {v : Int64} {d nn : Nat} {k : Int32} {g : Nat → Int32} (hn : n < 12) (hg : ∀ j, j < 15 * n → g j = xI X 46 j) (hG : rlG t n h X) : rlG t (n + 1) h (S, tI (xI X) n k g, u2 (xJ X) 91 0 v, u2 (xR X) 8 n (some d), nn) := by
  have h8 : ∀ j, j < n → u2 (xR X) 8 n (some d) 8 j = xR X 8 j := fun j hj => by rw [u2_at, if_neg (by omega)]
  have h45 : ∀ j, j ≠ n → tI (xI X) n k g 45 j = xI X 45 j := fun j hj => by
    show u2 (u2 (u2 (xI X) 4 4 (nI n + 1)) 42 0 0) 45 n k 45 j = _
    rw [u2_at, if_neg hj]; rfl
  have hall : ∀ {m c : Nat}, (m = 15 ∧ c = 0) ∨ (m = 24 ∧ c = 1) → mAll t n m c X → mAll t (n + 1) m c (S, tI (xI X) n k g, u2 (xJ X) 91 0 v, u2 (xR X) 8 n (some d), nn) := fun {m c} hm ⟨a1, a2, a3, a4, a5, T, B, a6, a7⟩ => by
    rcases hm with ⟨rfl, rfl⟩ | ⟨rfl, rfl⟩
    · exact ⟨a1, mTar_ext (X := X) rfl rfl rfl h8 a2, mCall_ext (X := X) hn rfl rfl h45 a3, mHand_ext (X := X) rfl rfl rfl rfl rfl rfl rfl h8 a4, a5, T, B, a6, mDen_ext (X := X) rfl rfl rfl hg a7⟩
    · exact ⟨a1, mTar_ext (X := X) rfl rfl rfl h8 a2, mCall_ext (X := X) hn rfl rfl h45 a3, mHand_ext (X := X) rfl rfl rfl rfl rfl rfl rfl h8 a4, a5, T, B, a6, mDen_ext (X := X) rfl rfl rfl hg a7⟩
  have h14 : ∀ {x : Option Nat} {y : Int32}, bnd y 0 ((n : Int) - 1) → x = xR X 8 y.toNatClampNeg → x = u2 (xR X) 8 n (some d) 8 y.toNatClampNeg := fun {x y} hy e => by
    have := clp hy.1
    rw [h8 _ (by have := hy.2; omega)]; exact e
  obtain ⟨g1, g2, ⟨g3, g4, g5, g6⟩, g7⟩ := hG
  refine ⟨fun z => ?_, fun z q => ?_, ⟨g3, g4, g5, fun z y => ?_⟩, g7⟩
  · obtain ⟨b1, b2, b3, b4, b5, b6⟩ := g1 z
    exact ⟨hall (Or.inl ⟨rfl, rfl⟩) b1, b2, b3, b4, h14 b1.2.1.2.2 b5, b6⟩
  · obtain ⟨b1, b2, b3, b4, b5, b6, b7⟩ := g2 z q
    exact ⟨b1, mTar_ext (X := X) rfl rfl rfl h8 b2, mHand_ext (X := X) rfl rfl rfl rfl rfl rfl rfl h8 b3, b4, b5, h14 b2.2.2 b6, b7⟩
  · obtain ⟨b1, b2⟩ := g6 z y
    exact ⟨hall (Or.inr ⟨rfl, rfl⟩) b1, b2⟩
