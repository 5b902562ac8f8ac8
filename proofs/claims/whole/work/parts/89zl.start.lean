/-! where the law begins -/
section Start
variable {L : Nat} {xs : Nat → Int32} {X1 X2 : AX}
set_option maxRecDepth 20000 in
theorem st_at (B1 : Bd 4 (alloc (x0X L xs) (21, 0)) X1 sX11 cX11 lX11) (B2 : Bd 42 (alloc X1 (22, 0)) X2 sX12 cX12 lX12) : (xN X1 = 42 ∧ xN X2 = 91) ∧ (∀ i, i < 4 → xS (alloc X2 (2, 1)) i = xS (x0X L xs) i ∧ xI (alloc X2 (2, 1)) i = xI (x0X L xs) i) ∧
    (∀ d, d < 38 → xS (alloc X2 (2, 1)) (4 + d) = sX11.getD d (0, 0) ∧ xI (alloc X2 (2, 1)) (4 + d) = cX11 d) ∧ (∀ d, d < 49 → xS (alloc X2 (2, 1)) (42 + d) = sX12.getD d (0, 0) ∧ xI (alloc X2 (2, 1)) (42 + d) = cX12 d) ∧ xR (alloc X2 (2, 1)) 4 10 = some 23 := by
  have n1 : xN X1 = 42 := B1.1
  have n2 : xN X2 = 91 := B2.1
  have k3 : ∀ i, i < 91 → xS (alloc X2 (2, 1)) i = xS X2 i ∧ xI (alloc X2 (2, 1)) i = xI X2 i ∧ xR (alloc X2 (2, 1)) i = xR X2 i := fun i hi => by
    have e : i ≠ xN X2 := by omega
    exact ⟨u1_ne _ _ e, u1_ne _ _ e, u1_ne _ _ e⟩
  have k2 : ∀ i, i < 42 → xS (alloc X2 (2, 1)) i = xS X1 i ∧ xI (alloc X2 (2, 1)) i = xI X1 i ∧ xR (alloc X2 (2, 1)) i = xR X1 i := fun i hi => by
    have e : i ≠ xN X1 := by omega
    obtain ⟨a1, a2, a3⟩ := k3 i (by omega)
    obtain ⟨b1, b2, b3⟩ := B2.2.1 i hi
    exact ⟨a1.trans (b1.trans (u1_ne _ _ e)), a2.trans (b2.trans (u1_ne _ _ e)), a3.trans (b3.trans (u1_ne _ _ e))⟩
  refine ⟨⟨n1, n2⟩, fun i hi => ?_, fun d hd => ?_, fun d hd => ?_, ?_⟩
  · have e : i ≠ 4 := by omega
    obtain ⟨a1, a2, -⟩ := k2 i (by omega)
    obtain ⟨b1, b2, -⟩ := B1.2.1 i hi
    exact ⟨a1.trans (b1.trans (u1_ne _ _ e)), a2.trans (b2.trans (u1_ne _ _ e))⟩
  · obtain ⟨a1, a2, -⟩ := k2 (4 + d) (by omega)
    obtain ⟨b1, b2⟩ := B1.2.2.1 d hd
    exact ⟨a1.trans b1, a2.trans b2⟩
  · obtain ⟨a1, a2, -⟩ := k3 (42 + d) (by omega)
    obtain ⟨b1, b2⟩ := B2.2.2.1 d hd
    exact ⟨a1.trans b1, a2.trans b2⟩
  · rw [(k2 4 (by decide)).2.2]
    exact B1.2.2.2 (10, 19) (by decide)
set_option maxRecDepth 20000 in
theorem st_sh1 : ∀ d, d < 38 → sX11.getD d (0, 0) = shL.getD d (0, 0) := by decide
set_option maxRecDepth 20000 in
theorem st_sh2 : ∀ d, d < 49 → sX12.getD d (0, 0) = shL.getD (38 + d) (0, 0) := by decide
set_option maxRecDepth 20000 in
theorem st_shape (B1 : Bd 4 (alloc (x0X L xs) (21, 0)) X1 sX11 cX11 lX11) (B2 : Bd 42 (alloc X1 (22, 0)) X2 sX12 cX12 lX12) : ∀ i s, tb0 i = some s → xS (alloc X2 (2, 1)) i = s := by
  obtain ⟨⟨n1, n2⟩, -, h1, h2, -⟩ := st_at B1 B2
  intro i s h
  unfold tb0 at h
  by_cases e : i < 4
  · rw [if_pos e] at h; cases h
  rw [if_neg e] at h
  have hl : i - 4 < 88 := (List.getElem?_eq_some_iff.mp h).1
  have hg : shL.getD (i - 4) (0, 0) = s := by rw [List.getD, h]; rfl
  by_cases e1 : i < 42
  · have q := (h1 (i - 4) (by omega)).1
    rw [st_sh1 _ (by omega), hg] at q
    rw [show i = 4 + (i - 4) by omega]; exact q
  by_cases e2 : i < 91
  · have q := (h2 (i - 42) (by omega)).1
    rw [st_sh2 _ (by omega), show 38 + (i - 42) = i - 4 by omega, hg] at q
    rw [show i = 42 + (i - 42) by omega]; exact q
  · have e3 : i = 91 := by omega
    subst e3
    have e4 : s = (2, 1) := by rw [← hg]; rfl
    rw [e4]
    show u1 (xS X2) (xN X2) (2, 1) 91 = (2, 1)
    rw [n2, u1_at]
set_option maxRecDepth 20000 in
theorem st_rel (B1 : Bd 4 (alloc (x0X L xs) (21, 0)) X1 sX11 cX11 lX11) (B2 : Bd 42 (alloc X1 (22, 0)) X2 sX12 cX12 lX12) : Rel L xs 0 0 0 0 0 (alloc X2 (2, 1)) := by
  obtain ⟨⟨n1, n2⟩, h0, h1, h2, hR⟩ := st_at B1 B2
  have hN : xN (alloc X2 (2, 1)) = 92 := by
    show xN X2 + 1 = 92
    rw [n2]
  have i4 : xI (alloc X2 (2, 1)) 4 = cX11 0 := (h1 0 (by decide)).2
  have i6 : xI (alloc X2 (2, 1)) 6 = cX11 2 := (h1 2 (by decide)).2
  have i7 : xI (alloc X2 (2, 1)) 7 = cX11 3 := (h1 3 (by decide)).2
  have i9 : xI (alloc X2 (2, 1)) 9 = cX11 5 := (h1 5 (by decide)).2
  have i10 : xI (alloc X2 (2, 1)) 10 = cX11 6 := (h1 6 (by decide)).2
  have i11 : xI (alloc X2 (2, 1)) 11 = cX11 7 := (h1 7 (by decide)).2
  have i12 : xI (alloc X2 (2, 1)) 12 = cX11 8 := (h1 8 (by decide)).2
  have i13 : xI (alloc X2 (2, 1)) 13 = cX11 9 := (h1 9 (by decide)).2
  have i14 : xI (alloc X2 (2, 1)) 14 = cX11 10 := (h1 10 (by decide)).2
  have i34 : xI (alloc X2 (2, 1)) 34 = cX11 30 := (h1 30 (by decide)).2
  have i42 : xI (alloc X2 (2, 1)) 42 = cX12 0 := (h2 0 (by decide)).2
  have i43 : xI (alloc X2 (2, 1)) 43 = cX12 1 := (h2 1 (by decide)).2
  have i44 : xI (alloc X2 (2, 1)) 44 = cX12 2 := (h2 2 (by decide)).2
  have i47 : xI (alloc X2 (2, 1)) 47 = cX12 5 := (h2 5 (by decide)).2
  have i48 : xI (alloc X2 (2, 1)) 48 = cX12 6 := (h2 6 (by decide)).2
  have i49 : xI (alloc X2 (2, 1)) 49 = cX12 7 := (h2 7 (by decide)).2
  have i50 : xI (alloc X2 (2, 1)) 50 = cX12 8 := (h2 8 (by decide)).2
  have i55 : xI (alloc X2 (2, 1)) 55 = cX12 13 := (h2 13 (by decide)).2
  generalize alloc X2 (2, 1) = X at *
  have z6 : ∀ j, xI X 6 j = 0 := fun j => by rw [i6]; rfl
  have z9 : ∀ j, xI X 9 j = 0 := fun j => by rw [i9]; rfl
  have z10 : ∀ j, xI X 10 j = 0 := fun j => by rw [i10]; rfl
  have z11 : ∀ j, xI X 11 j = 0 := fun j => by rw [i11]; rfl
  have z12 : ∀ j, xI X 12 j = 0 := fun j => by rw [i12]; rfl
  have z13 : ∀ j, xI X 13 j = 0 := fun j => by rw [i13]; rfl
  have z34 : ∀ j, xI X 34 j = 0 := fun j => by rw [i34]; rfl
  have z44 : ∀ j, xI X 44 j = 0 := fun j => by rw [i44]; rfl
  have z47 : ∀ j, xI X 47 j = 0 := fun j => by rw [i47]; rfl
  have z48 : ∀ j, xI X 48 j = 0 := fun j => by rw [i48]; rfl
  have z49 : ∀ j, xI X 49 j = 0 := fun j => by rw [i49]; rfl
  have z50 : ∀ j, xI X 50 j = 0 := fun j => by rw [i50]; rfl
  have z55 : ∀ j, xI X 55 j = 0 := fun j => by rw [i55]; rfl
  have y4_0 : xI X 4 0 = 2000 := by rw [i4]; rfl
  have y4_1 : xI X 4 1 = 4 := by rw [i4]; rfl
  have y42_1 : xI X 42 1 = 2000 := by rw [i42]; rfl
  have y42_2 : xI X 42 2 = 4 := by rw [i42]; rfl
  have y4_4 : xI X 4 4 = 0 := by rw [i4]; rfl
  have y42_5 : xI X 42 5 = 0 := by rw [i42]; rfl
  have y42_6 : xI X 42 6 = 0 := by rw [i42]; rfl
  have y42_25 : xI X 42 25 = 0 := by rw [i42]; rfl
  have y4_9 : xI X 4 9 = 0 := by rw [i4]; rfl
  have y42_7 : xI X 42 7 = 0 := by rw [i42]; rfl
  have y42_14 : xI X 42 14 = 0 := by rw [i42]; rfl
  have y14_6 : xI X 14 6 = 0 := by rw [i14]; rfl
  have y42_15 : xI X 42 15 = 0 := by rw [i42]; rfl
  have y42_19 : xI X 42 19 = 0 := by rw [i42]; rfl
  have y14_10 : xI X 14 10 = 0 := by rw [i14]; rfl
  have y42_18 : xI X 42 18 = 0 := by rw [i42]; rfl
  have y14_9 : xI X 14 9 = 0 := by rw [i14]; rfl
  have y42_16 : xI X 42 16 = 0 := by rw [i42]; rfl
  have y4_12 : xI X 4 12 = (-1) := by rw [i4]; rfl
  have y42_17 : xI X 42 17 = 0 := by rw [i42]; rfl
  have y4_16 : xI X 4 16 = 0 := by rw [i4]; rfl
  have z7 : ∀ r, r < 64 → xI X 7 r = -1 := fun r hr => by
    rw [i7]
    show (if (2 : Nat) = 2 ∧ r < 64 then (-1 : Int32) else 0) = -1
    rw [if_pos ⟨rfl, hr⟩]
  have z43 : ∀ r, r < 64 → xI X 43 r = -1 := fun r hr => by
    rw [i43]
    show (if (1 : Nat) = 1 ∧ r < 64 then (-1 : Int32) else 0) = -1
    rw [if_pos ⟨rfl, hr⟩]
  have nE : nEnd 0 X = 0 := by unfold nEnd; split <;> rfl
  refine ⟨⟨(h0 0 (by decide)).1, (h0 0 (by decide)).2, ⟨(h0 1 (by decide)).1, (h0 1 (by decide)).2⟩, ⟨(h0 2 (by decide)).1, (h0 2 (by decide)).2⟩, ⟨(h0 3 (by decide)).1, (h0 3 (by decide)).2⟩, by rw [hN]; decide⟩, ?_, ?_, ?_, ?_, ?_, ?_, ?_, ?_, ?_⟩
  · refine ⟨by rw [y42_1, y4_0], by rw [y4_0]; unfold bnd; decide, by rw [y42_2, y4_1], by rw [y4_1]; unfold bnd; decide⟩
  · refine ⟨fun r hr => ⟨by rw [z43 r hr, z7 r hr], by rw [z7 r hr]; unfold bnd; decide⟩, fun j _ => ⟨by rw [z44, z6], by rw [z6]; unfold bnd; decide⟩⟩
  · exact ⟨by rw [y4_4]; rfl, by rw [y42_5]; rfl, by decide, fun k hk => absurd hk (Nat.not_lt_zero _)⟩
  · refine fun j _ => ⟨by rw [z47, z9], by rw [z48, z10], by rw [z9]; unfold bnd; decide, fun w => ?_, fun w => ?_⟩
    · rw [z9] at w; exact absurd w (by decide)
    · rw [z9] at w; exact absurd w (by decide)
  · exact ⟨by rw [z11]; rfl, by rw [y42_6]; rfl, by decide, fun j _ => ⟨by rw [z49, z12], by rw [z12]; unfold bl; decide, by rw [z50, z13]⟩⟩
  · exact ⟨by rw [z34]; rfl, by rw [y42_25]; rfl, by decide, fun j hj => absurd hj (Nat.not_lt_zero _), by rw [z34]; rfl, by rw [z34]; decide⟩
  · refine ⟨by rw [y4_9]; rfl, by rw [y42_7]; rfl, Nat.le_refl _, by rw [y42_14, y14_6], by rw [y14_6]; unfold bl; decide, fun w => ?_, fun _ => by rw [y42_15]; rfl, by rw [y42_19, y14_10], by rw [y14_10]; unfold bl; decide, by rw [y42_18, y14_9], fun w => absurd w (Nat.not_lt_zero _)⟩
    rw [y14_6] at w; exact absurd w (by decide)
  · refine ⟨23, 64, hR, Or.inl rfl, by rw [hN]; decide, rfl, by decide, Or.inl rfl, by rw [nE]; decide, fun q hq => ?_, fun q _ => ?_⟩
    · rw [nE] at hq; exact absurd hq (Nat.not_lt_zero _)
    · rw [nE, z55, if_neg (Nat.not_lt_zero _)]
  · refine ⟨fun w => ?_, fun _ w => absurd w (Nat.not_lt_zero _), ⟨by rw [y42_16]; unfold bl; decide, fun _ => by rw [y4_12]; decide, fun w => ?_, fun w => ?_⟩, by rw [y42_17, y4_16], by rw [y4_16]; unfold bl; decide, fun w => ?_⟩
    · rw [y14_6] at w; exact absurd w (by decide)
    · rw [y42_16] at w; exact absurd w (by decide)
    · rw [y14_6] at w; exact absurd w (by decide)
    · rw [y4_16] at w; exact absurd w (by decide)
set_option maxRecDepth 20000 in
theorem law_b0 {P : PT} {K : Option AV → AX → Prop} {HX : Nat → LT → String → AX → Nat → Nat → Prop} {X : AX} (h : w_X11_init (fun _ => none) [vR (some (xN X))] (alloc X (21, 0)) (fun v X1 => rV v (w_X12_init (fun _ => none) [vR (some (xN X1))] (alloc X1 (22, 0)) (fun v X2 => rV v (P 23 [some (vR (some 0)), some (vR (some (xN X))), some (vR (some (xN X1))), some (vR (some (xN X2))), some (vI 0), none, none, none] [] (alloc X2 (2, 1)) 88 54146)) (fun _ _ => False))) (fun _ _ => False)) :
    wpb (M_L_law (fun _ => none)) P K HX [(0, .new 8, 3), (3, .dup, 1), (4, .invokespecial 127, 3), (7, .astore_n 1, 1), (8, .new 128, 3), (11, .dup, 1), (12, .invokespecial 130, 3), (15, .astore_n 2, 1), (16, .iconst 1, 1), (17, .newarray .long, 2), (19, .astore_n 3, 1), (20, .iconst 0, 1), (21, .istore 4, 2)] [some (vR (some 0)), none, none, none, none, none, none, none] [] X 0 0 := h
set_option maxRecDepth 20000 in
theorem law_start (hL : L ≤ 3072) : lawStart L xs := by
  unfold lawStart
  refine law_b0 (X := x0X L xs) ?_
  refine mk_X11 4 _ _ _ (by decide) rfl rfl rfl fun X1 B1 => rV_in ?_
  have n1 : xN X1 = 42 := B1.1
  rw [n1]
  have a1 : xN (alloc X1 (22, 0)) = 42 + 1 := by
    show xN X1 + 1 = _
    rw [n1]
  have a2 : xS (alloc X1 (22, 0)) 42 = (22, 0) := by
    show u1 (xS X1) (xN X1) (22, 0) 42 = _
    rw [n1, u1_at]
  have a3 : xI (alloc X1 (22, 0)) 42 = fun _ => 0 := by
    show u1 (xI X1) (xN X1) (fun _ => 0) 42 = _
    rw [n1, u1_at]
  refine mk_X12 42 _ _ _ (by decide) a1 a2 a3 fun X2 B2 => rV_in ?_
  have n2 : xN X2 = 91 := B2.1
  rw [n2]
  exact ⟨rfl, st_shape B1 B2, law_loop hL 512 0 rfl _ _ _ _ _ _ ⟨0, 0, 0, 0, st_rel B1 B2⟩ (by decide) (by decide)⟩
end Start
