/-! end -/
section Ops
variable {L : Nat} {xs : Nat → Int32} {t n s h l : Nat} {X : AX} {K : Option AV → AX → Prop} {KX : String → AX → Prop}
variable {X1 : AX} {a0 y s0 : Int32} {v fr : Int64} {N hh : Nat}
theorem kcl_10 {q : Nat} (h : q < 5) : 10 ≤ kcl q := by
  have : q = 0 ∨ q = 1 ∨ q = 2 ∨ q = 3 ∨ q = 4 := by omega
  rcases this with e | e | e | e | e <;> rw [e] <;> decide
theorem u2_slf {α : Type} (g : Nat → Nat → α) (i k : Nat) : u2 g i k (g i k) = g := by
  funext a b
  unfold u2
  by_cases h1 : a = i
  · by_cases h2 : b = k
    · rw [if_pos h1, if_pos h2, h1, h2]
    · rw [if_pos h1, if_neg h2]
  · rw [if_neg h1]
def enC (X : AX) (y a0 : Int32) (fr : Int64) : AX := (xS X, u2 (u2 (u2 (xI X) 14 11 y) 14 8 a0) 14 6 0, u2 (xJ X) 15 6 fr, xR X, xN X)
def en3 (X1 : AX) (v : Int64) (a0 y : Int32) (fr : Int64) : AX := (xS X1, u2 (u2 (u2 (u2 (xI X1) 42 0 0) 61 0 a0) 78 0 0) 79 0 y, u2 (u2 (xJ X1) 91 0 v) 75 0 fr, xR X1, xN X1)
def en4 (X1 : AX) (v : Int64) (a0 y : Int32) (fr : Int64) : AX := (xS X1, u2 (u2 (xI (en3 X1 v a0 y fr)) 42 14 0) 42 15 1, xJ (en3 X1 v a0 y fr), xR X1, xN X1)
def enY (X1 : AX) (v : Int64) (a0 y : Int32) (fr : Int64) (N hh : Nat) (s0 : Int32) : AX := (xS X1, u2 (u2 (u2 (u2 (u2 (xI (cpX (en4 X1 v a0 y fr) 0 2 N)) 55 hh 1) 51 hh s0) 52 hh (xI X1 67 0)) 53 hh (xI X1 59 0)) 54 hh (xI X1 42 19), xJ (cpX (en4 X1 v a0 y fr) 0 2 N), xR X1, xN X1)
def enM (X : AX) (fr : Int64) : AX := (xS X, xI X, u2 (u2 (xJ X) 15 6 fr) 75 0 fr, xR X, xN X)
theorem rc_le {x : Int64} (h : lg_cmp x 2147483647 ≤ 0) : Int64.toInt32 x = rcA x := by
  unfold rcA
  have h1 := Int64.le_iff_toInt_le.mp ((lg_cmp_le _ _).mp h)
  rw [if_neg (fun z => by have := Int64.lt_iff_toInt_lt.mp z; omega)]
theorem rc_gt {x : Int64} (h : ¬ lg_cmp x 2147483647 ≤ 0) : (2147483647 : Int32) = rcA x := by
  unfold rcA
  have h1 : ¬ x ≤ 2147483647 := fun z => h ((lg_cmp_le _ _).mpr z)
  have h2 : (2147483647 : Int64) < x := Int64.lt_iff_toInt_lt.mpr (by
    rcases Int.lt_or_le (2147483647 : Int64).toInt x.toInt with g | g
    · exact g
    · exact absurd (Int64.le_iff_toInt_le.mpr g) h1)
  rw [if_pos h2]
  decide
set_option maxHeartbeats 2000000 in
theorem rel_end (ht : t < 512) (H : Rel L xs t n s h l X) (h6 : (xI X 14 6).toInt = 1) (hy : y = 0 ∨ y = 1) (hh1 : h = hh + 1) (hN : (xI X 15 13).toNatClampNeg = N) (hP : WrP hh (enC X y a0 fr) X1) : Rel L xs (t + 1) n s h l (enY X1 v a0 y fr N hh (rcA fr)) := by
  obtain ⟨hS, hW, hR, hT, hL, hE, hKk, hH, hC, hG⟩ := H
  obtain ⟨rid, rid', len', c1, c2, c3, c4, c5, c6, c7, c8, c9, c10, c11, c12, c13, c14, c15, c16, c17, c18⟩ := hP
  obtain ⟨rid0, len0, b1, b2, b3, b4, b5, b6, b7, b8, b9⟩ := hC
  have er : rid0 = rid := Option.some.inj (b1.symm.trans c1)
  subst er
  have h92 := hS.2.2.2.2.2
  have c11' : ∀ i, i < xN X → i ≠ rid' → xI X1 i = xI (enC X y a0 fr) i := c11
  have c2' : rid' = rid0 ∨ rid' = xN X := c2
  have rX : ∀ i, i < 92 → i ≠ 23 → i ≠ 14 → xI X1 i = xI X i := fun i q1 q2 q3 => by
    rw [c11' i (by omega) (by omega)]
    show u2 (u2 (u2 (xI X) 14 11 y) 14 8 a0) 14 6 0 i = _
    rw [u2_ne _ _ _ q3, u2_ne _ _ _ q3, u2_ne _ _ _ q3]
  have r14 : xI X1 14 = u2 (u2 (u2 (xI X) 14 11 y) 14 8 a0) 14 6 0 14 := c11' 14 (by omega) (by omega)
  have rJ : ∀ i, i < 92 → i ≠ 15 → xJ X1 i = xJ X i := fun i q1 q2 => by
    rw [(c12 i (by show i < xN X; omega)).1]
    show u2 (xJ X) 15 6 fr i = _
    rw [u2_ne _ _ _ q2]
  have rJ15 : xJ X1 15 = u2 (xJ X) 15 6 fr 15 := (c12 15 (by show 15 < xN X; omega)).1
  have rS : ∀ i, i < xN X → xS X1 i = xS X i := fun i q => (c12 i q).2
  have rR : ∀ i, i < xN X → i ≠ 4 → xR X1 i = xR X i := fun i q1 q2 => c13 i q1 q2
  obtain ⟨g1, g2, ⟨g3a, g3b, g3c, g3d⟩, g4a, g4b, g4c⟩ := rlG_up hG
  obtain ⟨hall, g66, g65, g78, gf, g79⟩ := g1 h6
  obtain ⟨w1, w2, w3, w4, w5, T, B, w6, w7⟩ := id hall
  obtain ⟨lim1, lim2⟩ := m_lim w1
  obtain ⟨a1, a2, a3, a4, a5, a6, a7, a8, a9, a10, a11, a12⟩ := id w1
  obtain ⟨p1, p2, p3, p4, p5, p6, p7, p8, p9, p10, p11⟩ := rlH_up hH
  obtain ⟨k1, k2, k3, k4, k5, k6, k7, k8⟩ := p11 (by omega)
  have hn12 := hT.2.2.1
  have e14 : ∀ j, j ≠ 6 → j ≠ 8 → j ≠ 11 → xI X1 14 j = xI X 14 j := fun j q1 q2 q3 => by
    rw [r14, u2_at, if_neg q1, u2_at, if_neg q2, u2_at, if_neg q3]
  have e146 : xI X1 14 6 = 0 := by rw [r14, u2_at, if_pos rfl]
  have e148 : xI X1 14 8 = a0 := by rw [r14, u2_at, if_neg (by decide), u2_at, if_pos rfl]
  have e1411 : xI X1 14 11 = y := by rw [r14, u2_at, if_neg (by decide), u2_at, if_neg (by decide), u2_at, if_pos rfl]
  have Y6 : (xI (enY X1 v a0 y fr N hh (rcA fr)) 14 6).toInt = 0 := by
    show (xI X1 14 6).toInt = 0
    rw [e146]; decide
  have x4 : xI X1 4 = xI X 4 := rX 4 (by decide) (by decide) (by decide)
  have x42 : xI X1 42 = xI X 42 := rX 42 (by decide) (by decide) (by decide)
  have x15 : xI X1 15 = xI X 15 := rX 15 (by decide) (by decide) (by decide)
  have hn : nEnd h X = hh := by
    unfold nEnd
    rw [if_neg (by omega)]; omega
  have hnY : nEnd h (enY X1 v a0 y fr N hh (rcA fr)) = h := by
    unfold nEnd
    rw [if_pos Y6]
  rw [hn] at b7 b8 b9
  have hrow : ∀ i, i < xN X → 92 ≤ i → (xS X i = (1, 15) ∨ 10 ≤ (xS X i).1) → xI (enY X1 v a0 y fr N hh (rcA fr)) i = xI X i := fun i q1 q2 q3 => by
    have ne : i ≠ rid' := fun z => by
      rcases c2' with e | e
      · rw [z, e] at q3
        have hr : xS X rid0 = (1, len0) := by rw [← shp_hi (X := X) (by omega)]; exact b4
        rw [hr] at q3
        rcases q3 with q | q
        · have := congrArg Prod.snd q
          simp at this
          omega
        · simp at q
      · omega
    show u2 (u2 (u2 (u2 (u2 (xI (cpX (en4 X1 v a0 y fr) 0 2 N)) 55 hh 1) 51 hh _) 52 hh _) 53 hh _) 54 hh _ i = _
    rw [u2_ne _ _ _ (by omega), u2_ne _ _ _ (by omega), u2_ne _ _ _ (by omega), u2_ne _ _ _ (by omega), u2_ne _ _ _ (by omega), cpX_hi _ _ _ _ i q2]
    show u2 (u2 (u2 (u2 (u2 (u2 (xI X1) 42 0 0) 61 0 a0) 78 0 0) 79 0 y) 42 14 0) 42 15 1 i = _
    rw [u2_ne _ _ _ (by omega), u2_ne _ _ _ (by omega), u2_ne _ _ _ (by omega), u2_ne _ _ _ (by omega), u2_ne _ _ _ (by omega), u2_ne _ _ _ (by omega), c11' i q1 ne]
    show u2 (u2 (u2 (xI X) 14 11 y) 14 8 a0) 14 6 0 i = _
    rw [u2_ne _ _ _ (by omega), u2_ne _ _ _ (by omega), u2_ne _ _ _ (by omega)]
  have hrid : xI (enY X1 v a0 y fr N hh (rcA fr)) rid' = xI X1 rid' := by
    rcases c4 with e | e
    · rw [e]; try rfl
    · show u2 (u2 (u2 (u2 (u2 (xI (cpX (en4 X1 v a0 y fr) 0 2 N)) 55 hh 1) 51 hh _) 52 hh _) 53 hh _) 54 hh _ rid' = _
      rw [u2_ne _ _ _ (by omega), u2_ne _ _ _ (by omega), u2_ne _ _ _ (by omega), u2_ne _ _ _ (by omega), u2_ne _ _ _ (by omega), cpX_hi _ _ _ _ rid' e]
      show u2 (u2 (u2 (u2 (u2 (u2 (xI X1) 42 0 0) 61 0 a0) 78 0 0) 79 0 y) 42 14 0) 42 15 1 rid' = _
      rw [u2_ne _ _ _ (by omega), u2_ne _ _ _ (by omega), u2_ne _ _ _ (by omega), u2_ne _ _ _ (by omega), u2_ne _ _ _ (by omega), u2_ne _ _ _ (by omega)]
  have x8 : xR X1 8 = xR X 8 := rR 8 (by omega) (by decide)
  have x45 : xI X1 45 = xI X 45 := (rX 45 (by decide) (by decide) (by decide))
  have x46 : xI X1 46 = xI X 46 := (rX 46 (by decide) (by decide) (by decide))
  have mE : mEq 15 0 (enM X fr) 15 0 (enY X1 v a0 y fr N hh (rcA fr)) := by
    have l1 : (xI (enM X fr) 15 12).toNatClampNeg ≤ 50 := lim1
    have l2 : (xI (enM X fr) 15 13).toNatClampNeg ≤ 3840 := lim2
    refine ⟨fun j _ _ _ => congrFun x15 j, ⟨?_, ?_⟩, ?_, ⟨?_, fun j hj => ⟨?_, ?_⟩⟩, ?_, ?_, fun j hj => ?_, fun j hj => ⟨?_, ?_⟩, fun j hj => ⟨?_, ?_, ?_, ?_⟩, fun j hj => ⟨?_, ?_⟩, x45, x46, x8⟩
    · show xJ X1 15 5 = xJ X 15 5
      rw [rJ15]; try rfl
    · show xJ X1 15 6 = fr
      rw [rJ15]; try rfl
    · show xR X1 15 1 = xR X 15 1
      rw [rR 15 (by omega) (by decide)]
    · exact congrFun ((rX 16 (by decide) (by decide) (by decide))) 3
    · exact congrFun ((rX 17 (by decide) (by decide) (by decide))) j
    · exact congrFun ((rX 18 (by decide) (by decide) (by decide))) j
    · intro i q1 q2 q3 q4 q5
      have hi : i = 59 ∨ i = 62 ∨ i = 63 ∨ i = 64 ∨ i = 65 ∨ i = 66 ∨ i = 67 ∨ i = 68 ∨ i = 69 ∨ i = 70 ∨ i = 72 ∨ i = 73 := by omega
      rcases hi with rfl | rfl | rfl | rfl | rfl | rfl | rfl | rfl | rfl | rfl | rfl | rfl
      all_goals exact congrFun (rX _ (by decide) (by decide) (by decide)) 0
    · intro i q1 q2
      have hi : i = 74 ∨ i = 75 ∨ i = 76 ∨ i = 77 := by omega
      rcases hi with rfl | rfl | rfl | rfl
      · exact congrFun (rJ 74 (by decide) (by decide)) 0
      · rfl
      · exact congrFun (rJ 76 (by decide) (by decide)) 0
      · exact congrFun (rJ 77 (by decide) (by decide)) 0
    · show blk (xI X1 81) 12 0 2 12 (12 * 0 + j) = xI X 81 (12 * 0 + j)
      rw [blk_out _ (by omega), (rX 81 (by decide) (by decide) (by decide))]
    · show blk (xI X1 82) 3840 0 2 N (3840 * 0 + j) = xI X 82 (3840 * 0 + j)
      rw [blk_out _ (by omega), (rX 82 (by decide) (by decide) (by decide))]
    · exact congrFun ((rX 20 (by decide) (by decide) (by decide))) j
    · show blk (xI X1 83) 50 0 2 50 (50 * 0 + j) = xI X 83 (50 * 0 + j)
      rw [blk_out _ (by omega), (rX 83 (by decide) (by decide) (by decide))]
    · show blk (xI X1 84) 50 0 2 50 (50 * 0 + j) = xI X 84 (50 * 0 + j)
      rw [blk_out _ (by omega), (rX 84 (by decide) (by decide) (by decide))]
    · exact congrFun ((rX 21 (by decide) (by decide) (by decide))) j
    · show xR X1 22 j = xR X 22 j
      rw [rR 22 (by omega) (by decide)]
    · show blk (xJ X1 85) 80 0 2 80 (80 * 0 + j) = xJ X 85 (80 * 0 + j)
      rw [blk_out _ (by omega), rJ 85 (by decide) (by decide)]
    · show blk (xJ X1 86) 80 0 2 80 (80 * 0 + j) = xJ X 86 (80 * 0 + j)
      rw [blk_out _ (by omega), rJ 86 (by decide) (by decide)]
  have mN : mNum (t + 1) 15 0 (enM X fr) := ⟨a1, a2, a3, a4, a5, a6, a7, a8, rfl, a10, a11, a12⟩
  refine ⟨?_, ?_, ?_, ?_, ?_, ?_, ?_, ?_, ?_, ?_⟩
  · obtain ⟨s1, s2, s3, s4, s5, s6⟩ := hS
    unfold rlS
    rw [show xS (enY X1 v a0 y fr N hh (rcA fr)) 0 = xS X 0 from rS 0 (by omega), show xS (enY X1 v a0 y fr N hh (rcA fr)) 1 = xS X 1 from rS 1 (by omega), show xS (enY X1 v a0 y fr N hh (rcA fr)) 2 = xS X 2 from rS 2 (by omega), show xS (enY X1 v a0 y fr N hh (rcA fr)) 3 = xS X 3 from rS 3 (by omega), show xI (enY X1 v a0 y fr N hh (rcA fr)) 0 = xI X 0 from (rX 0 (by decide) (by decide) (by decide)), show xI (enY X1 v a0 y fr N hh (rcA fr)) 1 = xI X 1 from (rX 1 (by decide) (by decide) (by decide)), show xI (enY X1 v a0 y fr N hh (rcA fr)) 2 = xI X 2 from (rX 2 (by decide) (by decide) (by decide)), show xI (enY X1 v a0 y fr N hh (rcA fr)) 3 = xI X 3 from (rX 3 (by decide) (by decide) (by decide))]
    exact ⟨s1, s2, s3, s4, s5, Nat.le_trans h92 c6⟩
  · exact rlW_fr (X := X) (congrFun x4 0) (congrFun x4 1) (congrFun x42 1) (congrFun x42 2) hW
  · exact rlR_fr (X := X) (rX 6 (by decide) (by decide) (by decide)) (rX 7 (by decide) (by decide) (by decide)) (rX 43 (by decide) (by decide) (by decide)) (rX 44 (by decide) (by decide) (by decide)) hR
  · obtain ⟨t1, t2, t3, t4⟩ := hT
    refine ⟨(congrFun x4 4).trans t1, (congrFun x42 5).trans t2, t3, fun k hk => ?_⟩
    obtain ⟨d, d1, d2, d3, ⟨q, q1, q2, q3⟩, d5, d6, d7⟩ := t4 k hk
    have hd := hrow d (by omega) d2 (Or.inr (by rw [q3]; exact kcl_10 q1))
    have hd1 := hrow (d + 1) (by omega) (by omega) (Or.inl d5)
    refine ⟨d, ?_, d2, Nat.lt_of_lt_of_le d3 c6, ⟨q, q1, ?_, ?_⟩, ?_, ?_, fun j hj => ?_⟩
    · show xR X1 8 k = some d
      rw [x8]; exact d1
    · show xI X1 45 k = nI q
      rw [x45]; exact q2
    · show xS X1 d = _
      rw [rS d (by omega)]; exact q3
    · show xS X1 (d + 1) = _
      rw [rS (d + 1) (by omega)]; exact d5
    · rw [hd]; exact d6
    · rw [hd1, show xI (enY X1 v a0 y fr N hh (rcA fr)) 46 = xI X 46 from x46]; exact d7 j hj
  · exact rlL_fr (X := X) (rX 9 (by decide) (by decide) (by decide)) (rX 10 (by decide) (by decide) (by decide)) (rX 47 (by decide) (by decide) (by decide)) (rX 48 (by decide) (by decide) (by decide)) hL
  · exact rlE_fr (X := X) (congrFun ((rX 11 (by decide) (by decide) (by decide))) 2) (congrFun x42 6) (rX 12 (by decide) (by decide) (by decide)) (rX 13 (by decide) (by decide) (by decide)) (rX 49 (by decide) (by decide) (by decide)) (rX 50 (by decide) (by decide) (by decide)) hE
  · exact rlK_fr (X := X) (congrFun ((rX 34 (by decide) (by decide) (by decide))) 2) (congrFun ((rX 34 (by decide) (by decide) (by decide))) 3) (congrFun x42 25) (rX 35 (by decide) (by decide) (by decide)) (rX 36 (by decide) (by decide) (by decide)) (rX 56 (by decide) (by decide) (by decide)) (rX 57 (by decide) (by decide) (by decide)) hKk
  · refine ⟨(congrFun x4 9).trans p1, (congrFun x42 7).trans p2, p3, e146.symm, Or.inl e146, fun z => absurd (Y6.symm.trans z) (by decide), fun _ => ?_, ?_, ?_, ?_, fun _ => ⟨?_, ?_, ?_, ?_, ?_, ?_, ?_, ?_⟩⟩
    · show (1 : Int32).toInt = _
      rw [if_pos (by omega)]; decide
    · show xI X1 42 19 = xI X1 14 10
      rw [x42, e14 10 (by decide) (by decide) (by decide)]; exact p8
    · show bl (xI X1 14 10)
      rw [e14 10 (by decide) (by decide) (by decide)]; exact p9
    · show xI X1 42 18 = xI X1 14 9
      rw [x42, e14 9 (by decide) (by decide) (by decide)]; exact p10
    · show xI X1 14 5 = _
      rw [e14 5 (by decide) (by decide) (by decide)]; exact k1
    · show xI X1 58 0 = _
      rw [(rX 58 (by decide) (by decide) (by decide))]; exact k2
    · show xI X1 60 0 = xI X1 14 7
      rw [(rX 60 (by decide) (by decide) (by decide)), e14 7 (by decide) (by decide) (by decide)]; exact k3
    · show a0 = xI X1 14 8
      rw [e148]
    · show y = xI X1 14 11
      rw [e1411]
    · show bl (xI X1 14 11)
      rw [e1411]; exact hy
    · show xI X1 80 0 = xI X1 14 12
      rw [(rX 80 (by decide) (by decide) (by decide)), e14 12 (by decide) (by decide) (by decide)]; exact k7
    · show bl (xI X1 14 12)
      rw [e14 12 (by decide) (by decide) (by decide)]; exact k8
  · refine ⟨rid', len', c3, c4, c5, ?_, c8, c9, by rw [hnY]; omega, ?_, ?_⟩
    · unfold shp at c7 ⊢
      exact c7
    · rw [hnY, hrid]
      intro q hq
      show xI X1 rid' (4 * q) = u2 (xI X1) 51 hh (rcA fr) 51 q ∧ xI X1 rid' (4 * q + 1) = u2 (xI X1) 52 hh (xI X1 67 0) 52 q ∧ xI X1 rid' (4 * q + 2) = u2 (xI X1) 53 hh (xI X1 59 0) 53 q ∧ xI X1 rid' (4 * q + 3) = u2 (xI X1) 54 hh (xI X1 42 19) 54 q ∧ bl (u2 (xI X1) 54 hh (xI X1 42 19) 54 q)
      rw [u2_at, u2_at, u2_at, u2_at]
      by_cases e : q = hh
      · rw [if_pos e, if_pos e, if_pos e, if_pos e, e, c15, c16, c17, c18, x42, (rX 67 (by decide) (by decide) (by decide)), (rX 59 (by decide) (by decide) (by decide))]
        refine ⟨?_, a10.symm, a5.symm, ?_, ?_⟩
        · show rcA (u2 (xJ X) 15 6 fr 15 6) = rcA fr
          rw [u2_at, if_pos rfl]
        · exact p8.symm
        · rw [p8]; exact p9
      · rw [if_neg e, if_neg e, if_neg e, if_neg e, c14 _ (by omega), c14 _ (by omega), c14 _ (by omega), c14 _ (by omega), (rX 51 (by decide) (by decide) (by decide)), (rX 52 (by decide) (by decide) (by decide)), (rX 53 (by decide) (by decide) (by decide)), (rX 54 (by decide) (by decide) (by decide))]
        have : xI (enC X y a0 fr) rid0 = xI X rid0 := by
          show u2 (u2 (u2 (xI X) 14 11 y) 14 8 a0) 14 6 0 rid0 = _
          rw [u2_ne _ _ _ (by omega), u2_ne _ _ _ (by omega), u2_ne _ _ _ (by omega)]
        rw [this]
        exact b8 q (by omega)
    · rw [hnY]
      intro q hq
      show u2 (xI X1) 55 hh 1 55 q = _
      rw [u2_at]
      by_cases e : q = hh
      · rw [if_pos e, if_pos (by omega)]
      · rw [if_neg e, (rX 55 (by decide) (by decide) (by decide)), b9 q hq]
        by_cases e2 : q < hh
        · rw [if_pos e2, if_pos (by omega)]
        · rw [if_neg e2, if_neg (by omega)]
  · refine ⟨fun z => absurd (Y6.symm.trans z) (by decide), fun _ _ => ⟨mNum_tr mE mN, mTar_tr mE (X := enM X fr) w2, mHand_tr mE (X := enM X fr) w4, mDark_tr mE (X := enM X fr) w5, ⟨T, B, mFrac_tr mE (X := enM X fr) w6⟩, ?_, rfl, rfl, rfl, rfl, rfl, rfl, rfl, rfl, rfl, trivial, trivial, fun k hk => ⟨?_, ?_⟩⟩, ⟨?_, ?_, ?_, fun z => absurd (Y6.symm.trans z) (by decide)⟩, ?_, ?_, fun w => ?_⟩
    · show xR X1 14 4 = xR X1 8 (xI X1 63 0).toNatClampNeg
      rw [rR 14 (by omega) (by decide), x8, (rX 63 (by decide) (by decide) (by decide))]; exact gf
    · show blk (xI X1 83) 50 0 2 50 (50 * 2 + k) = blk (xI X1 83) 50 0 2 50 (50 * 0 + k)
      rw [blk_at _ hk, blk_out _ (by omega)]
    · show blk (xI X1 84) 50 0 2 50 (50 * 2 + k) = blk (xI X1 84) 50 0 2 50 (50 * 0 + k)
      rw [blk_at _ hk, blk_out _ (by omega)]
    · show bl (xI X1 42 16)
      rw [x42]; exact g3a
    · show xI X1 42 16 = 0 → (xI X1 4 12).toInt = -1
      rw [x42, x4]; exact g3b
    · show xI X1 42 16 = 1 → xI X1 4 12 = xI X1 58 1 ∧ bnd (xI X1 4 12) 0 ((h : Int) - 1)
      rw [x42, x4, (rX 58 (by decide) (by decide) (by decide))]; exact g3c
    · show xI X1 42 17 = xI X1 4 16
      rw [x42, x4]; exact g4a
    · show bl (xI X1 4 16)
      rw [x4]; exact g4b
    · have w' : xI X 4 16 = 1 := by rw [← x4]; exact w
      obtain ⟨u, T', B', v'⟩ := g4c w'
      refine ⟨?_, T', B', mFrac_fr (X := X) (congrFun ((rX 38 (by decide) (by decide) (by decide))) 3) (rX 39 (by decide) (by decide) (by decide)) (rX 40 (by decide) (by decide) (by decide)) (congrFun ((rX 72 (by decide) (by decide) (by decide))) 4) (congrFun ((rX 73 (by decide) (by decide) (by decide))) 4) ?_ ?_ v'⟩
      · show xI X1 67 4 = xI X1 37 7 ∧ bnd (xI X1 37 7) 0 2000000
        rw [(rX 67 (by decide) (by decide) (by decide)), (rX 37 (by decide) (by decide) (by decide))]; exact u
      · funext k
        show blk (xJ X1 85) 80 0 2 80 (80 * 4 + k) = xJ X 85 (80 * 4 + k)
        rw [blk_out _ (by omega), rJ 85 (by decide) (by decide)]
      · funext k
        show blk (xJ X1 86) 80 0 2 80 (80 * 4 + k) = xJ X 86 (80 * 4 + k)
        rw [blk_out _ (by omega), rJ 86 (by decide) (by decide)]
theorem cp_58 (Z : AX) (N : Nat) : xI (cpX Z 0 2 N) 58 0 = xI Z 58 0 := rfl
theorem cp_67 (Z : AX) (N : Nat) : xI (cpX Z 0 2 N) 67 0 = xI Z 67 0 := rfl
theorem cp_59 (Z : AX) (N : Nat) : xI (cpX Z 0 2 N) 59 0 = xI Z 59 0 := rfl
theorem cp_42 (Z : AX) (N : Nat) : xI (cpX Z 0 2 N) 42 = xI Z 42 := rfl
theorem cp_75 (Z : AX) (N : Nat) : xJ (cpX Z 0 2 N) 75 0 = xJ Z 75 0 := rfl
/-- the reference, behind copy -/
theorem m_end1 {Z : AX} (hh5 : hh < 512) (z75 : xJ Z 75 0 = fr) (h19 : xI Z 42 19 = 0 ∨ xI Z 42 19 = 1) (hK : K (some (vL fr)) (xS Z, u2 (u2 (u2 (u2 (u2 (xI (cpX Z 0 2 N)) 55 hh 1) 51 hh (rcA fr)) 52 hh (xI Z 67 0)) 53 hh (xI Z 59 0)) 54 hh (xI Z 42 19), xJ (cpX Z 0 2 N), xR Z, xN Z)) : ∀ s0, s0 = rcA fr → r_X12_end tb0 K KX 109 [some (vR (some 42)), some (vI a0), some (vI (nI hh))] [vI s0, vI (nI hh), vR (some 51)] (xS Z, u2 (xI (cpX Z 0 2 N)) 55 hh 1, xJ (cpX Z 0 2 N), xR Z, xN Z) 0 0 := by
  intro s0 hs0
  subst hs0
  have c0 : Int32.toNatClampNeg 0 = 0 := by decide
  have vh : vp_in (nI hh) 4000 := vp_in_nI (by omega) (by decide)
  have v0 : vp_in (0 : Int32) 5 := by unfold vp_in; decide
  have r67 : xI (xS Z, u2 (xI (cpX Z 0 2 N)) 55 hh 1, xJ (cpX Z 0 2 N), xR Z, xN Z) 67 0 = xI Z 67 0 := by
    show u2 (xI (cpX Z 0 2 N)) 55 hh 1 67 0 = _
    rw [u2_ne _ _ _ (by decide)]; exact cp_67 Z N
  have r59 : xI (xS Z, u2 (xI (cpX Z 0 2 N)) 55 hh 1, xJ (cpX Z 0 2 N), xR Z, xN Z) 59 0 = xI Z 59 0 := by
    show u2 (xI (cpX Z 0 2 N)) 55 hh 1 59 0 = _
    rw [u2_ne _ _ _ (by decide)]; exact cp_59 Z N
  have r19 : xI (xS Z, u2 (xI (cpX Z 0 2 N)) 55 hh 1, xJ (cpX Z 0 2 N), xR Z, xN Z) 42 19 = xI Z 42 19 := by
    show u2 (xI (cpX Z 0 2 N)) 55 hh 1 42 19 = _
    rw [u2_ne _ _ _ (by decide), cp_42]
  have r75 : xJ (xS Z, u2 (xI (cpX Z 0 2 N)) 55 hh 1, xJ (cpX Z 0 2 N), xR Z, xN Z) 75 0 = fr := (cp_75 Z N).trans z75
  refine e_X12_end_109 ?_
  rw [nI_clamp (by omega), c0, r67, r59, r19, r75]
  exact ⟨vh, v0, vh, v0, vh, vh, h19, v0, hK⟩
def kE (K : Option AV → AX → Prop) (KX : String → AX → Prop) (a0 : Int32) : Option AV → AX → Prop := (fun v4 X3 => rV v4 (vp_in 0 5 ∧ (vp_in (xI X3 58 (Int32.toNatClampNeg 0)) 4000 ∧ ((1 : Int32) = 0 ∨ (1 : Int32) = 1) ∧ (vp_in 0 5 ∧ (((lg_cmp (xJ X3 75 (Int32.toNatClampNeg 0)) 2147483647) ≤ (0 : Int32) → r_X12_end tb0 K KX 102 [some (vR (some 42)), some (vI a0), some (vI (xI X3 58 (Int32.toNatClampNeg 0)))] [vI (xI X3 58 (Int32.toNatClampNeg 0)), vR (some 51)] (xS X3, u2 (xI X3) 55 ((xI X3 58 (Int32.toNatClampNeg 0)).toNatClampNeg) 1, xJ X3, xR X3, xN X3) 0 0) ∧ (¬ (lg_cmp (xJ X3 75 (Int32.toNatClampNeg 0)) 2147483647) ≤ (0 : Int32) → r_X12_end tb0 K KX 109 [some (vR (some 42)), some (vI a0), some (vI (xI X3 58 (Int32.toNatClampNeg 0)))] [vI 2147483647, vI (xI X3 58 (Int32.toNatClampNeg 0)), vR (some 51)] (xS X3, u2 (xI X3) 55 ((xI X3 58 (Int32.toNatClampNeg 0)).toNatClampNeg) 1, xJ X3, xR X3, xN X3) 0 0))))))
def kE0 (K : Option AV → AX → Prop) (KX : String → AX → Prop) (a0 : Int32) : Option AV → AX → Prop := fun v2 X1 => rV v2 (((0 : Int32) = 0 ∨ (0 : Int32) = 1) ∧ (((1 : Int32) = 0 ∨ (1 : Int32) = 1) ∧ (w_X12_copy tb0 [vR (some 42), vI 0, vI 2] (xS X1, u2 (u2 (xI X1) 42 14 0) 42 15 1, xJ X1, xR X1, xN X1) (kE K KX a0) KX)))
theorem m_end2 {Z : AX} (hh5 : hh < 512) (z58 : xI Z 58 0 = nI hh) (z75 : xJ Z 75 0 = fr) (h19 : xI Z 42 19 = 0 ∨ xI Z 42 19 = 1) (z78 : bl (xI Z 78 0)) (z79 : bl (xI Z 79 0)) (z80 : bl (xI Z 80 0)) (z81 : ∀ j, j < 12 → bl (xI Z 81 (12 * 0 + j))) (hN : N ≤ 3840) (z69 : xI Z 69 0 = nI N) (hK : K (some (vL fr)) (xS Z, u2 (u2 (u2 (u2 (u2 (xI (cpX Z 0 2 N)) 55 hh 1) 51 hh (rcA fr)) 52 hh (xI Z 67 0)) 53 hh (xI Z 59 0)) 54 hh (xI Z 42 19), xJ (cpX Z 0 2 N), xR Z, xN Z)) : w_X12_copy tb0 [vR (some 42), vI 0, vI 2] Z (kE K KX a0) KX := by
  have z0 : nI 0 = (0 : Int32) := by decide
  have z2 : nI 2 = (2 : Int32) := by decide
  have c0 : Int32.toNatClampNeg 0 = 0 := by decide
  have ch : (nI hh).toNatClampNeg = hh := nI_clamp (by omega)
  have vh : vp_in (nI hh) 4000 := vp_in_nI (by omega) (by decide)
  have v0 : vp_in (0 : Int32) 5 := by unfold vp_in; decide
  have fin := m_end1 (K := K) (KX := KX) (a0 := a0) (N := N) hh5 z75 h19 hK
  have r58 : xI (cpX Z 0 2 N) 58 0 = nI hh := (cp_58 Z N).trans z58
  have r75 : xJ (cpX Z 0 2 N) 75 0 = fr := (cp_75 Z N).trans z75
  have q := s_copy (X := Z) (K := kE K KX a0) (KX := KX) (c := 0) (e := 2) (N := N) (by decide) (by decide) (by decide) z78 z79 z80 z81 hN z69 (by
    unfold kE
    refine rV_in ?_
    rw [c0, r58, r75, ch]
    refine ⟨v0, vh, Or.inr rfl, v0, fun w => e_X12_end_102 ⟨v0, ?_⟩, fun w => fin _ (rc_gt w)⟩
    rw [c0, show xJ (xS (cpX Z 0 2 N), u2 (xI (cpX Z 0 2 N)) 55 hh 1, xJ (cpX Z 0 2 N), xR (cpX Z 0 2 N), xN (cpX Z 0 2 N)) 75 0 = fr from r75]
    exact fin _ (rc_le w))
  rw [z0, z2] at q
  exact q
/-- the reference's end -/
theorem m_endF {k q : Nat} {f : Nat → Int32} (hh5 : hh < 512) (ha : 0 ≤ a0.toInt ∧ a0.toInt ≤ 99) (x14 : (xI X1 42 14).toInt = 1) (hk : k < 12) (hq : q < 5) (x64 : xI X1 64 0 = nI k) (x45 : xI X1 45 k = nI q) (x46 : ∀ j, j < 15 → xI X1 46 (15 * k + j) = f (15 * k + j)) (x70 : 0 ≤ (xI X1 70 0).toInt) (x58 : xI X1 58 0 = nI hh) (h19 : xI X1 42 19 = 0 ∨ xI X1 42 19 = 1) (hy : y = 0 ∨ y = 1) (x80 : bl (xI X1 80 0)) (x81 : ∀ j, j < 12 → bl (xI X1 81 (12 * 0 + j))) (hN : N ≤ 3840) (x69 : xI X1 69 0 = nI N) (x79 : xI X1 79 0 = 0) (hcase : y = 1 ∧ fr = (f (15 * k + 13)).toInt64 + xJ X1 76 0 ∧ xI X1 70 0 = 0 ∧ flatP f k q (xI X1 60 0) a0 ∨ y = 0 ∧ fr = xJ X1 75 0 ∧ ¬ (xI X1 70 0 = 0 ∧ flatP f k q (xI X1 60 0) a0)) (hK : K (some (vL fr)) (enY X1 v a0 y fr N hh (rcA fr))) : w_X12_end tb0 [vR (some 42), vI a0] (xS X1, xI X1, u2 (xJ X1) 91 0 v, xR X1, xN X1) K KX := by
  have e99 : (99 : Int32).toInt = 99 := by decide
  have e0 : (0 : Int32).toInt = 0 := by decide
  have z0 : nI 0 = (0 : Int32) := by decide
  have cont : kE0 K KX a0 none (en3 X1 v a0 y fr) := by
    unfold kE0
    refine rV_in ⟨Or.inl rfl, Or.inr rfl, ?_⟩
    exact m_end2 (Z := en4 X1 v a0 y fr) (fr := fr) hh5 x58 rfl h19 (Or.inl rfl) hy x80 x81 hN x69 hK
  refine i_X12_end (s_rightb (by decide) (Or.inr x14) (fun _ => rI_in ⟨fun z => absurd z (by decide), fun _ => ⟨fun z => ?_, fun _ => ⟨fun z => ?_, fun _ => e_X12_end_33 (s_right1 (rI_in ⟨fun _ => e_X12_end_42 ?_, fun z => absurd z (by decide)⟩))⟩⟩⟩) (fun z => absurd (x14.symm.trans z) (by decide)))
  · have := Int32.lt_iff_toInt_lt.mp z
    omega
  · have := Int32.lt_iff_toInt_lt.mp z
    omega
  · have ew := s_ends (S := xS X1) (F := u2 (xI X1) 42 0 0) (J := u2 (xJ X1) 91 0 v) (R := xR X1) (nn := xN X1) (c := 0) (k := k) (q := q) (f := f) (a1 := a0) (K := kE0 K KX a0) (KX := KX) (by decide) hk hq x64 x45 x46 x70 (fun z1 z2 => ?_) (fun z => ?_)
    · rw [z0] at ew
      exact ew
    · rcases hcase with ⟨y1, y2, -, -⟩ | ⟨-, -, y3⟩
      · have e : en3 X1 v a0 y fr = (xS X1, u2 (u2 (u2 (u2 (xI X1) 42 0 0) 61 0 a0) 78 0 0) 79 0 1, u2 (u2 (xJ X1) 91 0 v) 75 0 ((f (15 * k + 13)).toInt64 + (u2 (xJ X1) 91 0 v) 76 0), xR X1, xN X1) := by
          unfold en3
          rw [y1, y2]; try rfl
        rw [e] at cont
        exact cont
      · exact absurd ⟨z1, z2⟩ y3
    · rcases hcase with ⟨-, -, y1, y2⟩ | ⟨y1, y2, -⟩
      · exact absurd ⟨y1, y2⟩ z
      · have u79 : u2 (u2 (u2 (u2 (xI X1) 42 0 0) 61 0 a0) 78 0 0) 79 0 y = u2 (u2 (u2 (xI X1) 42 0 0) 61 0 a0) 78 0 0 := by
          have := u2_slf (u2 (u2 (u2 (xI X1) 42 0 0) 61 0 a0) 78 0 0) 79 0
          rw [show (u2 (u2 (u2 (xI X1) 42 0 0) 61 0 a0) 78 0 0) 79 0 = y from x79.trans y1.symm] at this
          exact this
        have u75 : u2 (u2 (xJ X1) 91 0 v) 75 0 fr = u2 (xJ X1) 91 0 v := by
          have := u2_slf (u2 (xJ X1) 91 0 v) 75 0
          rw [show (u2 (xJ X1) 91 0 v) 75 0 = fr from y2.symm] at this
          exact this
        have e : en3 X1 v a0 y fr = (xS X1, u2 (u2 (u2 (xI X1) 42 0 0) 61 0 a0) 78 0 0, u2 (xJ X1) 91 0 v, xR X1, xN X1) := by
          unfold en3
          rw [u79, u75]
        rw [e] at cont
        exact cont
set_option maxHeartbeats 2000000 in
theorem op_end {a0 : Int32} (ht : t < 512) (H : Rel L xs t n s h l X) (hK : ∀ c X1, SamS X X1 → (∀ K2 KX2, (∀ b X4, FinL L xs t c b X4 → K2 (some (vL b)) X4) → w_X12_end tb0 [vR (some 42), vI a0] X1 K2 KX2) → K (some (vI c)) X1) : w_L_end tb0 [vR (some 4), vI a0, vR (some 91)] X K KX := by
  obtain ⟨hS, hW, hR, hT, hL, hE, hKk, hH, hC, hG⟩ := id H
  have hb := hH.2.2.2.2.1
  have hr : xI X 42 14 = xI X 14 6 := hH.2.2.2.1
  unfold bl at hb
  have e99 : (99 : Int32).toInt = 99 := by decide
  have e0 : (0 : Int32).toInt = 0 := by decide
  refine i_L_end (i_X11_end (s_hired hb (fun h6 => rV_in (s_isFrom (fun q1 q2 => rI_in (s_demand1 (rV_in ?_))) (fun q => rI_in (s_demand0 fun n1 hn => ?_)))) (fun h6 n1 hn => ?_)))
  · rw [e0] at q1
    rw [e99] at q2
    obtain ⟨hall, g66, g65, g78, gf, g79⟩ := id (hG.1 h6)
    obtain ⟨w1, w2, w3, w4, w5, T, B, w6, w7⟩ := id hall
    obtain ⟨lim1, lim2⟩ := m_lim w1
    obtain ⟨a1, a2, a3, a4, a5, a6, a7, a8, a9, a10, a11, a12, a13, a14, a15, a16, a17, a18, a19, a20, a21⟩ := id w1
    obtain ⟨k, q, d, x, hk, hq, hd, h45, hsd, h64, -⟩ := rep_of hT hall
    obtain ⟨t1, t2, t3, -, t5, t6, t7⟩ := id hd
    have h0 := hH.2.2.2.2.2.1 h6
    have hht := hH.2.2.1
    obtain ⟨k1, k2, k3, k4, k5, k6, k7, k8⟩ := hH.2.2.2.2.2.2.2.2.2.2 h0
    obtain ⟨rid, len, c1, c2, c3, c4, c5, c6, c7, c8, c9⟩ := id hC
    have hn12 := hT.2.2.1
    have h92 := hS.2.2.2.2.2
    obtain ⟨hh, hhe⟩ : ∃ hh, h = hh + 1 := ⟨h - 1, by omega⟩
    have k1' : xI X 14 5 = nI hh := by rw [k1, hhe]; try rfl
    have k2' : xI X 58 0 = nI hh := by rw [k2, hhe]; try rfl
    have hnE : nEnd h X = hh := by
      unfold nEnd
      rw [if_neg (by omega)]; omega
    rw [hnE] at c7
    have rt : xR X 15 1 = some d := by rw [w2.2.1, h64, nI_clamp (by omega)]; exact t1
    have a17' := a17
    unfold bnd at a17'
    have h19 : bl (xI X 14 10) := hH.2.2.2.2.2.2.2.2.1
    have h19' : xI X 42 19 = xI X 14 10 := hH.2.2.2.2.2.2.2.1
    have key : ∀ y fr, (y = 0 ∨ y = 1) → (y = 1 ∧ fr = (xI X 46 (15 * k + 13)).toInt64 + (xI X 15 9).toInt64 ∧ xI X 15 12 = 0 ∧ flatP (xI X 46) k q (xI X 14 7) a0 ∨ y = 0 ∧ fr = xJ X 15 6 ∧ ¬ (xI X 15 12 = 0 ∧ flatP (xI X 46) k q (xI X 14 7) a0)) → ∀ X1, WrP hh (enC X y a0 fr) X1 → ∀ K2 KX2, (∀ b X4, FinL L xs t 0 b X4 → K2 (some (vL b)) X4) → w_X12_end tb0 [vR (some 42), vI a0] (xS X1, xI X1, u2 (xJ X1) 91 0 (xJ X1 15 6), xR X1, xN X1) K2 KX2 := by
      intro y fr hy hcase X1 hP K2 KX2 hK2
      obtain ⟨_, rid', _, _, d2, _, d4, _, _, _, _, _, _, f11, f12, _⟩ := id hP
      have rX : ∀ i, i < 92 → i ≠ 23 → i ≠ 14 → xI X1 i = xI X i := fun i q1 q2 q3 => by
        rw [f11 i (by show i < xN X; omega) (by omega)]
        show u2 (u2 (u2 (xI X) 14 11 y) 14 8 a0) 14 6 0 i = _
        rw [u2_ne _ _ _ q3, u2_ne _ _ _ q3, u2_ne _ _ _ q3]
      have rJ : ∀ i, i < 92 → i ≠ 15 → xJ X1 i = xJ X i := fun i q1 q2 => by
        rw [(f12 i (by show i < xN X; omega)).1]
        show u2 (xJ X) 15 6 fr i = _
        rw [u2_ne _ _ _ q2]
      have rJ15 : xJ X1 15 6 = fr := by
        rw [(f12 15 (by show 15 < xN X; omega)).1]
        show u2 (xJ X) 15 6 fr 15 6 = fr
        rw [u2_at, if_pos rfl]
      have y60 : xI X1 60 0 = xI X 14 7 := by rw [rX 60 (by decide) (by decide) (by decide)]; exact k3
      have y70 : xI X1 70 0 = xI X 15 12 := by rw [rX 70 (by decide) (by decide) (by decide)]; exact a16
      have j75 : xJ X1 75 0 = xJ X 15 6 := by rw [rJ 75 (by decide) (by decide)]; exact a9
      have j76 : xJ X1 76 0 = (xI X 15 9).toInt64 := by rw [rJ 76 (by decide) (by decide)]; exact a12
      refine m_endF (X1 := X1) (y := y) (fr := fr) (N := (xI X 15 13).toNatClampNeg) (hh := hh) (k := k) (q := q) (f := xI X 46) (by omega) ⟨q1, q2⟩ ?_ (by omega) hq ?_ ?_ ?_ ?_ ?_ ?_ hy ?_ ?_ lim2 ?_ ?_ ?_ (hK2 _ _ ⟨⟨n, s, h, l, rel_end ht H h6 hy hhe rfl hP⟩, ?_, fun _ => ?_⟩)
      · rw [rX 42 (by decide) (by decide) (by decide), hr]; exact h6
      · rw [rX 64 (by decide) (by decide) (by decide)]; exact h64
      · rw [rX 45 (by decide) (by decide) (by decide)]; exact h45
      · intro j _
        rw [rX 46 (by decide) (by decide) (by decide)]
      · rw [y70]; exact a17'.1
      · rw [rX 58 (by decide) (by decide) (by decide)]; exact k2'
      · rw [rX 42 (by decide) (by decide) (by decide), h19']; exact h19
      · rw [rX 80 (by decide) (by decide) (by decide), k7]; exact k8
      · intro j hj
        rw [rX 81 (by decide) (by decide) (by decide)]; exact (w3 j hj).2.2
      · rw [rX 69 (by decide) (by decide) (by decide), a18]; exact nI_ofI a19
      · rw [rX 79 (by decide) (by decide) (by decide)]; exact g79
      · rw [y60, y70, j75, j76]; exact hcase
      · rfl
      · exact rJ15
    have cls : ∀ y fr, (y = 0 ∨ y = 1) → (y = 1 ∧ fr = (xI X 46 (15 * k + 13)).toInt64 + (xI X 15 9).toInt64 ∧ xI X 15 12 = 0 ∧ flatP (xI X 46) k q (xI X 14 7) a0 ∨ y = 0 ∧ fr = xJ X 15 6 ∧ ¬ (xI X 15 12 = 0 ∧ flatP (xI X 46) k q (xI X 14 7) a0)) → (y = 0 ∨ y = 1) ∧ (((0 : Int32) = 0 ∨ (0 : Int32) = 1) ∧ (rV none (w_X11_writeReceipt tb0 [vR (some 4)] (enC X y a0 fr) (fun v11 X10 => rV v11 (rL (some (vL (xJ X10 15 6))) fun y3 => vp_in 0 1 ∧ (r_L_end tb0 K 17 [some (vR (some 4)), some (vI a0), some (vR (some 91)), none] [] (xS X10, xI X10, u2 (xJ X10) 91 (Int32.toNatClampNeg 0) y3, xR X10, xN X10) 3 2060))) (fun E X4 => if E = "java/lang/IllegalStateException" then gd (3 < 4 ∧ E ∈ thrNms) (r_L_end tb0 K 12 [some (vR (some 4)), some (vI a0), some (vR (some 91)), none] [] X4 3 2060) else gd (E ∈ thrNms ∧ "java/lang/IllegalStateException" ∈ thrNms) (if E = "java/lang/IllegalArgumentException" then gd (3 < 4 ∧ E ∈ thrNms) (r_L_end tb0 K 15 [some (vR (some 4)), some (vI a0), some (vR (some 91)), none] [] X4 3 2060) else gd (E ∈ thrNms ∧ "java/lang/IllegalArgumentException" ∈ thrNms) (False)))))) := by
      intro y fr hy hcase
      refine ⟨hy, Or.inl rfl, rV_in (s_receipt (S := xS X) (F := u2 (u2 (u2 (xI X) 14 11 y) 14 8 a0) 14 6 0) (J := u2 (xJ X) 15 6 fr) (R := xR X) (nn := xN X) (rid := rid) (len := len) (hh := hh) h92 c1 c2 c3 c4 c5 c6 c7 k1' (by omega) h19 (fun X1 hP => rV_in (rL_in ⟨by unfold vp_in; decide, e_L_end_17 (hK 0 _ (SamS.mk ?_ ?_) (fun K2 KX2 hK2 => key y fr hy hcase X1 hP K2 KX2 hK2))⟩)))⟩
      · obtain ⟨_, rid', _, _, _, _, _, _, _, _, _, _, _, _, f12, _⟩ := hP
        exact (f12 0 (by show 0 < xN X; omega)).2
      · obtain ⟨_, rid', _, _, d2, _, d4, _, _, _, _, _, _, f11, _⟩ := hP
        refine (f11 0 (by show 0 < xN X; omega) ?_).trans rfl
        omega
    refine i_X4_close (s_finish_15 (S := xS X) (F := xI X) (J := xJ X) (R := xR X) (nn := xN X) (d := d) (q := q) (k := k) (f := xI X 46) t2 hsd t5 hq rt (fun j hj => (t7 j hj).1) (fun z1 z2 => rI_in ?_) (fun z => rI_in ?_))
    · exact cls 1 _ (Or.inr rfl) (Or.inl ⟨rfl, rfl, z1, z2⟩)
    · have := cls 0 (xJ X 15 6) (Or.inl rfl) (Or.inr ⟨rfl, rfl, z⟩)
      unfold enC at this
      rw [u2_slf] at this
      exact this
  · rw [e0, e99] at q
    refine ite_f (by decide) (gd_in (by decide) (ite_t rfl (gd_in (by decide) (e_L_end_15 (hK _ _ (SamS.mk rfl rfl) (fun K2 KX2 hK2 => i_X12_end (s_rightb (by decide) (Or.inr ?_) (fun _ => rI_in ⟨fun z => absurd z (by decide), fun _ => ⟨fun z => e_X12_end_32 (e_X12_end_33 (s_right0 (by decide) (rI_in ⟨fun z => absurd rfl z, fun _ => e_X12_end_40 (hK2 _ _ (finL_thr H hn _ (by decide)))⟩))), fun z => ⟨fun z => e_X12_end_32 (e_X12_end_33 (s_right0 (by decide) (rI_in ⟨fun z => absurd rfl z, fun _ => e_X12_end_40 (hK2 _ _ (finL_thr H hn _ (by decide)))⟩))), fun z2 => ?_⟩⟩⟩) (fun z => absurd z ?_))))))))
    · show (xI X 42 14).toInt = 1
      rw [hr]; exact h6
    · have y1 : ¬ a0.toInt < 0 := fun y => z (Int32.lt_iff_toInt_lt.mpr (by rw [e0]; exact y))
      have y2 : ¬ 99 < a0.toInt := fun y => z2 (Int32.lt_iff_toInt_lt.mpr (by rw [e99]; exact y))
      exact absurd ⟨by omega, by omega⟩ q
    · show ¬ (xI X 42 14).toInt = 0
      rw [hr]; omega
  · refine ite_t rfl (gd_in (by decide) (e_L_end_12 (hK _ _ (SamS.mk rfl rfl) (fun K2 KX2 hK2 => i_X12_end (s_rightb (by decide) (Or.inl ?_) (fun z => absurd z ?_) (fun _ => rI_in ⟨fun _ => e_X12_end_40 (hK2 _ _ (finL_thr H hn _ (by decide))), fun z => absurd rfl z⟩))))))
    · show (xI X 42 14).toInt = 0
      rw [hr]; exact h6
    · show ¬ (xI X 42 14).toInt = 1
      rw [hr]; omega
end Ops
