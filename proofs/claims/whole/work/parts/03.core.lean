/-! values of a run, by numbers of cells: an int, a long, a float, a cell's number or null -/
abbrev AV : Type := Int32 ⊕ Int64 ⊕ UInt32 ⊕ Option Nat
abbrev vI (x : Int32) : AV := Sum.inl x
abbrev vL (x : Int64) : AV := Sum.inr (Sum.inl x)
abbrev vF (x : UInt32) : AV := Sum.inr (Sum.inr (Sum.inl x))
abbrev vR (r : Option Nat) : AV := Sum.inr (Sum.inr (Sum.inr r))
/-- the heap by numbers of cells: shapes, ints, longs, references, how many -/
abbrev AX : Type := (Nat → Nat × Nat) × (Nat → Nat → Int32) × (Nat → Nat → Int64) × (Nat → Nat → Option Nat) × Nat
/-- the ground: numbers of classes and slots; array classes; the first new address; static rows (addresses, lengths, values); the first heap; shapes known ahead -/
abbrev GX : Type := va_G × (Nat → ClassId) × Nat × (Nat → Nat) × (Nat → Nat) × (Nat → Nat → Int32) × Heap × (Nat → Option (Nat × Nat))
abbrev gD (G : GX) : va_G := G.1
abbrev gA (G : GX) : Nat → ClassId := G.2.1
abbrev gB (G : GX) : Nat := G.2.2.1
abbrev gS (G : GX) : Nat → Nat := G.2.2.2.1
abbrev gL (G : GX) : Nat → Nat := G.2.2.2.2.1
abbrev gV (G : GX) : Nat → Nat → Int32 := G.2.2.2.2.2.1
abbrev gH (G : GX) : Heap := G.2.2.2.2.2.2.1
abbrev gT (G : GX) : Nat → Option (Nat × Nat) := G.2.2.2.2.2.2.2
abbrev xS (X : AX) : Nat → Nat × Nat := X.1
abbrev xI (X : AX) : Nat → Nat → Int32 := X.2.1
abbrev xJ (X : AX) : Nat → Nat → Int64 := X.2.2.1
abbrev xR (X : AX) : Nat → Nat → Option Nat := X.2.2.2.1
abbrev xN (X : AX) : Nat := X.2.2.2.2
def ad (G : GX) (i : Nat) : Nat := if i < 4 then gS G i else gB G + (i - 4)
def rv (G : GX) (r : Option Nat) : Value := va_rf (r.map (ad G))
def cv (G : GX) : AV → Value
  | .inl x => .int x
  | .inr (.inl x) => .long x
  | .inr (.inr (.inl x)) => .float x
  | .inr (.inr (.inr r)) => rv G r
theorem cv_some (G : GX) (i : Nat) : cv G (vR (some i)) = .ref (ad G i) := rfl
theorem cv_none (G : GX) : cv G (vR none) = .null := rfl
def cls13 : List vw_C := [(RX0, TX0, 2), (RX1, TX1, 2), (RX2, TX2, 2), (RX3, TX3, 2), (RX4, TX4, 13), (RX5, TX5, 15), (RX6, TX6, 2), (RX7, TX7, 4), (RX8, TX8, 2), (RX9, TX9, 3), (RX10, TX10, 4), (RX11, TX11, 17), (RX12, TX12, 63)]
def fty (ci k : Nat) : FieldType := match ci with
  | 0 => tyX0 k
  | 1 => tyX1 k
  | 2 => tyX2 k
  | 3 => tyX3 k
  | 4 => tyX4 k
  | 5 => tyX5 k
  | 6 => tyX6 k
  | 7 => tyX7 k
  | 8 => tyX8 k
  | 9 => tyX9 k
  | 10 => tyX10 k
  | 11 => tyX11 k
  | _ => tyX12 k
def fN (ci : Nat) : Nat := match ci with
  | 0 => 2
  | 1 => 2
  | 2 => 2
  | 3 => 2
  | 4 => 13
  | 5 => 15
  | 6 => 2
  | 7 => 4
  | 8 => 2
  | 9 => 3
  | 10 => 4
  | 11 => 17
  | 12 => 63
  | _ => 0
def fv (G : GX) (X : AX) (i ci k : Nat) : Value := match fty ci k with
  | .long => .long (xJ X i k)
  | .object _ => rv G (xR X i k)
  | .array _ => rv G (xR X i k)
  | _ => .int (xI X i k)
def aty (k : Nat) : FieldType := match k with
  | 1 => .int
  | 2 => .long
  | 3 => .short
  | 4 => .boolean
  | _ => .object "FareClock$Day"
def aval (G : GX) (X : AX) (k i j : Nat) : Value := match k with
  | 2 => .long (xJ X i j)
  | 5 => rv G (xR X i j)
  | _ => .int (xI X i j)
/-- what the heap holds for the cell i -/
def cel (G : GX) (X : AX) (i : Nat) (H : Heap) : Prop :=
  if (xS X i).1 = 0 then True
  else if (xS X i).1 < 6 then H[ad G i]? = some (arrV (gA G (xS X i).1) (xS X i).2 (aval G X (xS X i).1 i))
  else 10 ≤ (xS X i).1 ∧ (xS X i).1 - 10 < 13 ∧ t_OB (ad G i) ((gD G).1 ((xS X i).1 - 10)) (fN ((xS X i).1 - 10)) ((gD G).2 ((xS X i).1 - 10)) H (fv G X i ((xS X i).1 - 10))
def lk {α : Type} : List (Nat × α) → Nat → Option α
  | [], _ => none
  | (j, a) :: t, i => if j = i then some a else lk t i
/-- final references of a made object: field, how far from it -/
def offL (ci : Nat) : List (Nat × Nat) := match ci with
  | 0 => [(1, 1)]
  | 1 => [(1, 1)]
  | 2 => [(1, 1)]
  | 3 => [(1, 1)]
  | 4 => [(0, 1), (1, 6), (2, 7), (3, 8)]
  | 5 => [(0, 1)]
  | 6 => [(1, 1)]
  | 7 => [(0, 1), (1, 2), (2, 3)]
  | 8 => [(0, 1), (1, 2)]
  | 9 => [(0, 1), (1, 2)]
  | 10 => [(0, 1), (1, 2)]
  | 11 => [(2, 1), (3, 4), (5, 5), (6, 6), (7, 7), (8, 10), (11, 20), (13, 25), (14, 30), (15, 33)]
  | 12 => [(3, 1), (4, 2), (8, 3), (9, 4), (10, 5), (11, 6), (12, 7), (13, 8), (20, 9), (21, 10), (22, 11), (23, 12), (24, 13), (26, 14), (27, 15), (28, 16), (29, 17), (30, 18), (31, 19), (32, 20), (33, 21), (34, 22), (35, 23), (36, 24), (37, 25), (38, 26), (39, 27), (40, 28), (41, 29), (42, 30), (43, 31), (44, 32), (45, 33), (46, 34), (47, 35), (48, 36), (49, 37), (50, 38), (51, 39), (52, 40), (53, 41), (54, 42), (55, 43), (56, 44), (57, 45), (58, 46), (61, 47), (62, 48)]
  | _ => []
def off (ci k : Nat) : Option Nat := lk (offL ci) k
/-- the shapes of the cells that the two constructors and the law's own row make, from the fourth on -/
def shL : List (Nat × Nat) := [(21, 1), (18, 1), (3, 3840), (1, 64), (5, 12), (1, 12), (1, 12), (19, 1), (4, 40), (1, 40), (14, 1), (15, 1), (17, 1), (1, 24), (1, 24), (1, 24), (3, 3840), (1, 50), (5, 50), (1, 64), (15, 1), (17, 1), (1, 24), (1, 24), (1, 24), (15, 1), (17, 1), (1, 24), (1, 24), (1, 24), (20, 1), (1, 20), (1, 20), (15, 1), (17, 1), (1, 24), (1, 24), (1, 24), (22, 1), (1, 64), (1, 3840), (1, 12), (1, 180), (1, 12), (1, 12), (4, 40), (1, 40), (1, 4000), (1, 4000), (1, 4000), (4, 4000), (4, 4000), (1, 20), (1, 20), (1, 5), (1, 5), (1, 5), (1, 5), (1, 5), (1, 5), (1, 5), (1, 5), (1, 5), (1, 5), (1, 5), (1, 5), (1, 5), (1, 5), (1, 5), (1, 5), (2, 5), (2, 5), (2, 5), (2, 5), (4, 5), (4, 5), (4, 5), (4, 60), (1, 19200), (1, 250), (1, 250), (2, 400), (2, 400), (2, 170), (2, 170), (2, 180), (2, 180), (2, 1)]
def tb0 (i : Nat) : Option (Nat × Nat) := if i < 4 then none else shL[i - 4]?
def Rp (G : GX) (X : AX) (H : Heap) : Prop :=
  (4 ≤ xN X ∧ H.size = gB G + (xN X - 4) ∧ gB G = (gH G).size ∧ (∀ q, q < gB G → H[q]? = (gH G)[q]?)) ∧
  (∀ i, xN X ≤ i → xS X i = (0, 0)) ∧
  (∀ i, i < 4 → xS X i = (1, gL G i) ∧ gS G i < gB G ∧ ∀ j, j < gL G i → xI X i j = gV G i j) ∧
  (∀ i, 4 ≤ i → i < xN X → cel G X i H) ∧
  (∀ i s, gT G i = some s → xS X i = s) ∧
  (∀ i ci, xS X i = (ci + 10, 1) → ∀ k o, off ci k = some o → xR X i k = some (i + o))
def aTys (G : GX) : List (ClassId × FieldType) := [(gA G 1, .int), (gA G 2, .long), (gA G 3, .short), (gA G 4, .boolean), (gA G 5, .object "FareClock$Day")]
def lw_casts : List (String × String) := [(RX0, RX1), (RX2, RX1), (RX3, RX1), (RX6, RX1), ("[I", "java/lang/Cloneable"), ("java/lang/IllegalArgumentException", "java/lang/IllegalArgumentException"), ("java/lang/IllegalStateException", "java/lang/IllegalStateException"), ("java/util/NoSuchElementException", "java/util/NoSuchElementException"), ("java/lang/IndexOutOfBoundsException", "java/lang/IndexOutOfBoundsException")]
def lw_decls : List String := ["java/lang/RuntimeException", "java/lang/Exception", "java/lang/Throwable"]
def lw_nests : List (String × Nat) := [(RX1, 27), (RX2, 13), (RX3, 13), (RX6, 13)]
/-- what the tables, and the first heap's static rows, are -/
def lw_ncs : List (String × String) := [("java/lang/IllegalArgumentException", "java/lang/IllegalStateException"), ("java/lang/IllegalArgumentException", "java/lang/IndexOutOfBoundsException"), ("java/lang/IllegalArgumentException", "java/util/NoSuchElementException"), ("java/lang/IllegalStateException", "java/lang/IllegalArgumentException"), ("java/lang/IllegalStateException", "java/lang/IndexOutOfBoundsException"), ("java/lang/IllegalStateException", "java/util/NoSuchElementException"), ("java/lang/IndexOutOfBoundsException", "java/lang/IllegalArgumentException"), ("java/lang/IndexOutOfBoundsException", "java/lang/IllegalStateException"), ("java/lang/IndexOutOfBoundsException", "java/util/NoSuchElementException"), ("java/util/NoSuchElementException", "java/lang/IllegalArgumentException"), ("java/util/NoSuchElementException", "java/lang/IllegalStateException"), ("java/util/NoSuchElementException", "java/lang/IndexOutOfBoundsException")]
def Gk (G : GX) (U : State) : Prop :=
  va_K (gD G) cls13 (aTys G) U ∧
  (∀ i, i < 4 → ∃ cell : Cell, (gH G)[gS G i]? = some cell ∧ U.isArrayOf cell .int ∧ cell.vm ≠ .unknown ∧ (0 < i → U.vm.findClass "[I" = some cell.cls) ∧ cell.slots.size = gL G i ∧ ∀ j, j < gL G i → cell.slots[j]? = some (.int (gV G i j))) ∧
  (va_Z "FareClock" "NUMBER_AT_FIRST" "[I" (.ref (gS G 1)) (fun q => gB G ≤ q) U (gH G) ∧ va_Z "FareClock" "NUMBER_LEAST" "[I" (.ref (gS G 2)) (fun q => gB G ≤ q) U (gH G) ∧ va_Z "FareClock" "NUMBER_MOST" "[I" (.ref (gS G 3)) (fun q => gB G ≤ q) U (gH G)) ∧
  (vx_Zq Bundle.tN "UNASSIGNED_STACK" Bundle.steD (fun q => gB G ≤ q) U (gH G) ∧ vx_Zq Bundle.tN "SUPPRESSED_SENTINEL" Bundle.listD (fun q => gB G ≤ q) U (gH G)) ∧
  ((∀ q ∈ lw_casts, va_Nw (.castable q.1 q.2) U) ∧ (∀ q ∈ lw_nests, va_Nw (.methodLinkNest q.1 q.2 yX11_isFrom "FareClock") U) ∧ va_Nw (.fieldLinkNest RX1 9 "FareClock" "NUMBER_AT_FIRST" "[I" "FareClock") U ∧ va_AO RX1 U ∧ ((∀ y ∈ lw_decls, va_Nw (.declares (Bundle.init0 y)) U) ∧ ∀ q ∈ lw_ncs, va_Nc q.1 q.2 U))
theorem Gk.moved {G : GX} {s U : State} (hW : s.WarmedH U.vm) (h : Gk G s) : Gk G U := by
  obtain ⟨h1, h2, ⟨z1, z2, z3⟩, ⟨t1, t2⟩, w1, w2, w3, w6, w7, w8⟩ := h
  refine ⟨va_K.moved hW.alike h1, fun i hi => ?_, ⟨va_Z.moved hW.alike z1, va_Z.moved hW.alike z2, va_Z.moved hW.alike z3⟩, ⟨vx_Zq.moved hW.alike t1, vx_Zq.moved hW.alike t2⟩, fun q hq => va_Nw.warmC hW (w1 q hq), fun q hq => va_Nw.warmM hW (w2 q hq), va_Nw.warmF hW w3, va_AO.moved hW.alike w6, fun q hq => va_Nw.warmD hW (w7 q hq), fun q hq => va_Nc.moved hW.alike (w8 q hq)⟩
  obtain ⟨cell, q1, q2, q3, q4, q5, q6⟩ := h2 i hi
  exact ⟨cell, q1, State.isArrayOf_alike hW.alike q2, q3, fun h0 => by rw [hW.alike.findClass]; exact q4 h0, q5, q6⟩
def u2 {α : Type} (f : Nat → Nat → α) (i k : Nat) (v : α) : Nat → Nat → α := fun a b => if a = i then (if b = k then v else f a b) else f a b
theorem u2_ne {α : Type} (f : Nat → Nat → α) {i a : Nat} (k : Nat) (v : α) (h : a ≠ i) : u2 f i k v a = f a := by
  funext b; simp [u2, h]
theorem u2_at {α : Type} (f : Nat → Nat → α) (i k b : Nat) (v : α) : u2 f i k v i b = if b = k then v else f i b := by simp [u2]
theorem fv_congr {G : GX} {X X' : AX} {i : Nat} (hI : xI X' i = xI X i) (hJ : xJ X' i = xJ X i) (hR : xR X' i = xR X i) (ci : Nat) : fv G X' i ci = fv G X i ci := by
  funext k; simp only [fv]; rw [hI, hJ, hR]
theorem aval_congr {G : GX} {X X' : AX} {i : Nat} (hI : xI X' i = xI X i) (hJ : xJ X' i = xJ X i) (hR : xR X' i = xR X i) (k : Nat) : aval G X' k i = aval G X k i := by
  funext j; simp only [aval]; rw [hI, hJ, hR]
theorem cel_kept {G : GX} {X X' : AX} {i : Nat} {H H' : Heap} (hS : xS X' i = xS X i) (hI : xI X' i = xI X i) (hJ : xJ X' i = xJ X i) (hR : xR X' i = xR X i) (hh : H'[ad G i]? = H[ad G i]?) (h : cel G X i H) : cel G X' i H' := by
  unfold cel at h ⊢
  rw [hS, aval_congr hI hJ hR, fv_congr hI hJ hR]
  split
  · trivial
  · rename_i h0
    rw [if_neg h0] at h
    split
    · rename_i h1
      rw [if_pos h1] at h
      rw [hh]; exact h
    · rename_i h1
      rw [if_neg h1] at h
      exact ⟨h.1, h.2.1, h.2.2.kept hh⟩
theorem ad_inj {G : GX} {i j : Nat} (hi : 4 ≤ i) (hj : 4 ≤ j) (h : ad G i = ad G j) : i = j := by
  unfold ad at h
  rw [if_neg (by omega), if_neg (by omega)] at h
  omega
theorem ad_ge {G : GX} {i : Nat} (hi : 4 ≤ i) : gB G ≤ ad G i := by
  unfold ad
  rw [if_neg (by omega)]
  omega
/-- a cell that has a shape other than a static row's is one of the run's own -/
theorem Rp.own {G : GX} {X : AX} {H : Heap} (h : Rp G X H) {i : Nat} (h0 : (xS X i).1 ≠ 0) (h4 : 4 ≤ i) : i < xN X := by
  rcases Nat.lt_or_ge i (xN X) with q | q
  · exact q
  · exact absurd (by rw [h.2.1 i q]) h0
theorem Rp.obj4 {G : GX} {X : AX} {H : Heap} (h : Rp G X H) {i ci : Nat} {fl : Nat} (hs : xS X i = (ci + 10, fl)) : 4 ≤ i ∧ i < xN X := by
  have h4 : 4 ≤ i := by
    rcases Nat.lt_or_ge i 4 with q | q
    · have := (h.2.2.1 i q).1
      rw [hs] at this
      have := congrArg Prod.fst this
      simp at this
    · exact q
  exact ⟨h4, h.own (by rw [hs]; simp) h4⟩
theorem Rp.obj {G : GX} {X : AX} {H : Heap} (h : Rp G X H) {i ci : Nat} {fl : Nat} (hs : xS X i = (ci + 10, fl)) : ci < 13 ∧ t_OB (ad G i) ((gD G).1 ci) (fN ci) ((gD G).2 ci) H (fv G X i ci) := by
  obtain ⟨h4, hn⟩ := h.obj4 hs
  have hc := h.2.2.2.1 i h4 hn
  unfold cel at hc
  rw [hs] at hc
  simp only [Nat.add_eq_zero_iff, if_neg (show ¬ (ci = 0 ∧ 10 = 0) by omega), if_neg (show ¬ (ci + 10 < 6) by omega), Nat.add_sub_cancel] at hc
  exact hc.2
theorem Rp.arr {G : GX} {X : AX} {H : Heap} (h : Rp G X H) {i k n : Nat} (hs : xS X i = (k, n)) (hk : 0 < k) (hk6 : k < 6) (h4 : 4 ≤ i) : i < xN X ∧ H[ad G i]? = some (arrV (gA G k) n (aval G X k i)) := by
  have hn := h.own (i := i) (by rw [hs]; simp; omega) h4
  have hc := h.2.2.2.1 i h4 hn
  unfold cel at hc
  rw [hs] at hc
  simp only [if_neg (show ¬ k = 0 by omega), if_pos hk6] at hc
  exact ⟨hn, hc⟩
/-- one cell of the run's own is written -/
theorem Rp.set {G : GX} {X X' : AX} {H H' : Heap} {i0 : Nat} (h : Rp G X H) (h4 : 4 ≤ i0) (hS : xS X' = xS X) (hN : xN X' = xN X)
    (ho : ∀ i, i ≠ i0 → xI X' i = xI X i ∧ xJ X' i = xJ X i ∧ xR X' i = xR X i) (hz : H'.size = H.size) (hq : ∀ q, q ≠ ad G i0 → H'[q]? = H[q]?) (hc : cel G X' i0 H')
    (hoff : ∀ ci, xS X i0 = (ci + 10, 1) → ∀ k o, off ci k = some o → xR X' i0 k = xR X i0 k) : Rp G X' H' := by
  obtain ⟨⟨a1, a2, a3, a4⟩, b, c, d, e, f⟩ := h
  refine ⟨⟨by rw [hN]; exact a1, by rw [hN, hz]; exact a2, a3, fun q hlt => ?_⟩, fun i hi => by rw [hS]; exact b i (by rw [← hN]; exact hi), fun i hi => ?_, fun i hi hin => ?_, fun i s hs => by rw [hS]; exact e i s hs, fun i ci hs k o ho' => ?_⟩
  · rw [hq q (by have := ad_ge (G := G) h4; omega)]; exact a4 q hlt
  · have hne : i ≠ i0 := by omega
    rw [hS, (ho i hne).1]; exact c i hi
  · by_cases hne : i = i0
    · rw [hne]; exact hc
    · obtain ⟨q1, q2, q3⟩ := ho i hne
      exact cel_kept (by rw [hS]) q1 q2 q3 (hq _ (fun z => hne (ad_inj hi h4 z))) (d i hi (by rw [← hN]; exact hin))
  · rw [hS] at hs
    by_cases hne : i = i0
    · rw [hne] at hs ⊢
      rw [hoff ci hs k o ho']; exact f i0 ci hs k o ho'
    · rw [(ho i hne).2.2]; exact f i ci hs k o ho'
/-- a cell is made -/
theorem Rp.push {G : GX} {X X' : AX} {H H' : Heap} (h : Rp G X H) (hN : xN X' = xN X + 1) (hS : ∀ i, i ≠ xN X → xS X' i = xS X i) (h1 : ∀ ci, xS X' (xN X) ≠ (ci + 10, 1)) (ho : ∀ i, i ≠ xN X → xI X' i = xI X i ∧ xJ X' i = xJ X i ∧ xR X' i = xR X i)
    (hz : H'.size = H.size + 1) (hq : ∀ q, q < H.size → H'[q]? = H[q]?) (hc : cel G X' (xN X) H') (hT : ∀ s, gT G (xN X) = some s → xS X' (xN X) = s) : Rp G X' H' := by
  obtain ⟨⟨a1, a2, a3, a4⟩, b, c, d, e, f⟩ := h
  refine ⟨⟨by rw [hN]; omega, by rw [hN, hz, a2]; omega, a3, fun q hlt => ?_⟩, fun i hi => ?_, fun i hi => ?_, fun i hi hin => ?_, fun i s hs => ?_, fun i ci hs k o ho' => ?_⟩
  · rw [hq q (by omega)]; exact a4 q hlt
  · rw [hN] at hi
    rw [hS i (by omega)]; exact b i (by omega)
  · have hne : i ≠ xN X := by omega
    rw [hS i hne, (ho i hne).1]; exact c i hi
  · rw [hN] at hin
    by_cases hne : i = xN X
    · rw [hne]; exact hc
    · obtain ⟨q1, q2, q3⟩ := ho i hne
      refine cel_kept (hS i hne) q1 q2 q3 (hq _ ?_) (d i hi (by omega))
      unfold ad
      rw [if_neg (by omega)]
      omega
  · by_cases hne : i = xN X
    · rw [hne] at hs ⊢; exact hT s hs
    · rw [hS i hne]; exact e i s hs
  · by_cases hne : i = xN X
    · rw [hne] at hs; exact absurd hs (h1 ci)
    · rw [hS i hne] at hs
      rw [(ho i hne).2.2]; exact f i ci hs k o ho'
theorem Rp.adN {G : GX} {X : AX} {H : Heap} (h : Rp G X H) : ad G (xN X) = H.size := by
  unfold ad
  rw [if_neg (by have := h.1.1; omega), h.1.2.1]
/-- the heap has grown, all that was there is as it was -/
theorem Rp.grow {G : GX} {X : AX} {H H' : Heap} (h : Rp G X H) (hz : H.size ≤ H'.size) (hq : ∀ q, q < H.size → H'[q]? = H[q]?) : Rp G (xS X, xI X, xJ X, xR X, H'.size - gB G + 4) H' := by
  obtain ⟨⟨a1, a2, a3, a4⟩, b, c, d, e, f⟩ := h
  refine ⟨⟨Nat.le_add_left 4 _, ?_, a3, fun q hlt => ?_⟩, fun i hi => b i ?_, c, fun i hi hin => ?_, e, f⟩
  · show H'.size = gB G + (H'.size - gB G + 4 - 4)
    omega
  · rw [hq q (by omega)]; exact a4 q hlt
  · have : H'.size - gB G + 4 ≤ i := hi
    omega
  · have hin : i < H'.size - gB G + 4 := hin
    by_cases hlt : i < xN X
    · refine cel_kept (X := X) rfl rfl rfl rfl (hq _ ?_) (d i hi hlt)
      unfold ad
      rw [if_neg (by omega)]
      omega
    · have h0 := b i (by omega)
      unfold cel
      rw [if_pos (by show (xS X i).1 = 0; rw [h0])]
      trivial
