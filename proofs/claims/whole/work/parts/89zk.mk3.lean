/-! the two great constructors -/
def cX11 : Nat → Nat → Int32 := (cJn 33 (cJn 30 (cJn 25 (u2 (cJn 20 (cJn 10 (cJn 7 (cJn 1 (u2 (u2 (fun _ _ => 0) 0 0 2000) 0 1 4) cX8) cX9) cX4) cX5) 0 12 (-1)) cX5) cX10) cX5)
def sX11 : List (Nat × Nat) := [(21, 1), (18, 1), (3, 3840), (1, 64), (5, 12), (1, 12), (1, 12), (19, 1), (4, 40), (1, 40), (14, 1), (15, 1), (17, 1), (1, 24), (1, 24), (1, 24), (3, 3840), (1, 50), (5, 50), (1, 64), (15, 1), (17, 1), (1, 24), (1, 24), (1, 24), (15, 1), (17, 1), (1, 24), (1, 24), (1, 24), (20, 1), (1, 20), (1, 20), (15, 1), (17, 1), (1, 24), (1, 24), (1, 24)]
def lX11 : List (Nat × Nat) := [(2, 1), (3, 4), (5, 5), (6, 6), (7, 7), (8, 10), (10, 19), (11, 20), (13, 25), (14, 30), (15, 33)]
set_option maxRecDepth 20000 in
theorem mk_X11 : MkC (w_X11_init fun _ => none) 11 sX11 cX11 lX11 := by
  intro o X K KX h4 hN hS hI h
  have B0 := bd_start (ci := 11) hN hS hI
  refine (lfp_in (F := wpm (M_X11_init fun _ => none) B_X11_init K (fun _ _ _ E X _ _ => KX E X)) ?_ : r_X11_init (fun _ => none) K KX 0 (some (vR (some o)) :: []) [] X 0 0)
  show wpb (M_X11_init fun _ => none) (r_X11_init (fun _ => none) K KX) K (fun _ _ E X _ _ => KX E X) ((lk B_X11_init 0).getD []) (some (vR (some o)) :: []) [] X 0 0
  refine g_o rfl ?_
  refine g_i (ci := 11) (f := 0) (v := 2000) rfl (fun _ _ _ _ _ _ _ _ _ => rfl) rfl B0 (by decide) rfl (fun X1 B1 => ?_)
  refine g_i (ci := 11) (f := 1) (v := 4) rfl (fun _ _ _ _ _ _ _ _ _ => rfl) rfl B1 (by decide) rfl (fun X2 B2 => ?_)
  refine g_n (ci := 11) (cj := 8) (f := 2) (m := 1) (mc := 2) (ms := 3904) rfl rfl rfl ⟨by decide, by decide⟩ ⟨by decide, by decide⟩ rfl B2 rfl (by decide) rfl (by decide) h4 mk_X8 (fun X3 B3 => ?_)
  refine g_a (ci := 11) (f := 3) (n := 12) (nn := 12) (kk := 5) (m := 4) rfl (fun _ _ _ _ _ _ _ _ _ => rfl) (fun _ _ _ _ _ _ _ _ _ => rfl) (by decide) (by decide) (by decide) rfl B3 rfl (by decide) rfl (by decide) rfl (fun X4 B4 => ?_)
  refine g_a (ci := 11) (f := 5) (n := 12) (nn := 12) (kk := 1) (m := 5) rfl (fun _ _ _ _ _ _ _ _ _ => rfl) (fun _ _ _ _ _ _ _ _ _ => rfl) (by decide) (by decide) (by decide) rfl B4 rfl (by decide) rfl (by decide) rfl (fun X5 B5 => ?_)
  refine g_a (ci := 11) (f := 6) (n := 12) (nn := 12) (kk := 1) (m := 6) rfl (fun _ _ _ _ _ _ _ _ _ => rfl) (fun _ _ _ _ _ _ _ _ _ => rfl) (by decide) (by decide) (by decide) rfl B5 rfl (by decide) rfl (by decide) rfl (fun X6 B6 => ?_)
  refine g_n (ci := 11) (cj := 9) (f := 7) (m := 7) (mc := 2) (ms := 80) rfl rfl rfl ⟨by decide, by decide⟩ ⟨by decide, by decide⟩ rfl B6 rfl (by decide) rfl (by decide) h4 mk_X9 (fun X7 B7 => ?_)
  refine g_n (ci := 11) (cj := 4) (f := 8) (m := 10) (mc := 8) (ms := 4031) rfl rfl rfl ⟨by decide, by decide⟩ ⟨by decide, by decide⟩ rfl B7 rfl (by decide) rfl (by decide) h4 mk_X4 (fun X8 B8 => ?_)
  refine g_a (ci := 11) (f := 10) (n := 64) (nn := 64) (kk := 1) (m := 19) rfl (fun _ _ _ _ _ _ _ _ _ => rfl) (fun _ _ _ _ _ _ _ _ _ => rfl) (by decide) (by decide) (by decide) rfl B8 rfl (by decide) rfl (by decide) rfl (fun X9 B9 => ?_)
  refine g_n (ci := 11) (cj := 5) (f := 11) (m := 20) (mc := 4) (ms := 76) rfl rfl rfl ⟨by decide, by decide⟩ ⟨by decide, by decide⟩ rfl B9 rfl (by decide) rfl (by decide) h4 mk_X5 (fun X10 B10 => ?_)
  refine g_i (ci := 11) (f := 12) (v := (-1)) rfl (fun _ _ _ _ _ _ _ _ _ => rfl) rfl B10 (by decide) rfl (fun X11 B11 => ?_)
  refine g_n (ci := 11) (cj := 5) (f := 13) (m := 25) (mc := 4) (ms := 76) rfl rfl rfl ⟨by decide, by decide⟩ ⟨by decide, by decide⟩ rfl B11 rfl (by decide) rfl (by decide) h4 mk_X5 (fun X12 B12 => ?_)
  refine g_n (ci := 11) (cj := 10) (f := 14) (m := 30) (mc := 2) (ms := 40) rfl rfl rfl ⟨by decide, by decide⟩ ⟨by decide, by decide⟩ rfl B12 rfl (by decide) rfl (by decide) h4 mk_X10 (fun X13 B13 => ?_)
  refine g_n (ci := 11) (cj := 5) (f := 15) (m := 33) (mc := 4) (ms := 76) rfl rfl rfl ⟨by decide, by decide⟩ ⟨by decide, by decide⟩ rfl B13 rfl (by decide) rfl (by decide) h4 mk_X5 (fun X14 B14 => ?_)
  exact g_r (ci := 11) rfl rfl B14 (by decide) rfl (by decide) h
section Loop12
variable {S : Nat → Nat × Nat} {F : Nat → Nat → Int32} {J : Nat → Nat → Int64} {R : Nat → Nat → Option Nat} {nn o k z : Nat} {K : Option AV → AX → Prop} {KX : String → AX → Prop}
set_option maxRecDepth 20000 in
theorem n_X12_395 {i : Int32} {X : AX} (h : ((64 : Int32) ≤ i → r_X12_init (fun _ => none) K KX 414 [some (vR (some o)), some (vI i)] [] X k z) ∧ (¬ (64 : Int32) ≤ i → gd (isC 12 (xS X o).1 = true) (onSome (xR X o 3) fun a => gd (4 ≤ a ∧ (xS X a).1 = 1) (vp_in i (xS X a).2 ∧ r_X12_init (fun _ => none) K KX 395 [some (vR (some o)), some (vI (i + 1))] [] (xS X, u2 (xI X) a i.toNatClampNeg (-1), xJ X, xR X, xN X) k z)))) : r_X12_init (fun _ => none) K KX 395 [some (vR (some o)), some (vI i)] [] X k z := lfp_in h
set_option maxRecDepth 20000 in
theorem n_X12_loop (h4 : 4 ≤ o) (h0 : S o = (22, 0)) (hr : R o 3 = some (o + 1)) (hs : S (o + 1) = (1, 64)) (hK : ∀ g : Nat → Int32, (∀ j, j < 64 → g j = -1) → (∀ j, 64 ≤ j → g j = F (o + 1) j) → r_X12_init (fun _ => none) K KX 414 [some (vR (some o)), some (vI (nI 64))] [] (S, u1 F (o + 1) g, J, R, nn) k z) :
    ∀ (r i : Nat) (g : Nat → Int32), i + r = 64 → (∀ j, j < i → g j = -1) → (∀ j, i ≤ j → g j = F (o + 1) j) → r_X12_init (fun _ => none) K KX 395 [some (vR (some o)), some (vI (nI i))] [] (S, u1 F (o + 1) g, J, R, nn) k z
  | 0, i, g, hi, hg, hg2 => by
    have e : i = 64 := by omega
    subst e
    exact n_X12_395 ⟨fun _ => hK g hg hg2, fun c => absurd (nI_le (a := 64) (Nat.le_refl _) (by decide)) c⟩
  | r + 1, i, g, hi, hg, hg2 => by
    refine n_X12_395 ⟨fun c => absurd c (nI_ge (a := i) (b := 64) (by omega) (by decide)), fun _ => ?_⟩
    have a1 : xS (S, u1 F (o + 1) g, J, R, nn) o = (22, 0) := h0
    have a2 : xR (S, u1 F (o + 1) g, J, R, nn) o 3 = some (o + 1) := hr
    have a3 : xS (S, u1 F (o + 1) g, J, R, nn) (o + 1) = (1, 64) := hs
    rw [a1, a2]
    refine gd_in rfl ?_
    show gd (4 ≤ o + 1 ∧ (xS (S, u1 F (o + 1) g, J, R, nn) (o + 1)).1 = 1) _
    rw [a3]
    refine gd_in ⟨by omega, rfl⟩ ⟨vp_in_nI (by omega) (by decide), ?_⟩
    rw [nI_1, nI_clamp (by omega)]
    show r_X12_init (fun _ => none) K KX 395 _ [] (S, u2 (u1 F (o + 1) g) (o + 1) i (-1), J, R, nn) k z
    rw [u2_u1]
    refine n_X12_loop h4 h0 hr hs hK r (i + 1) _ (by omega) (fun j hj => ?_) (fun j hj => ?_)
    · by_cases e : j = i
      · subst e; rw [stf_at]
      · rw [stf_ne _ _ e]; exact hg j (by omega)
    · rw [stf_ne _ _ (by omega)]; exact hg2 j (by omega)
end Loop12
def cX12 : Nat → Nat → Int32 := (cFill (u2 (u2 (fun _ _ => 0) 0 1 2000) 0 2 4) 1)
def sX12 : List (Nat × Nat) := [(22, 1), (1, 64), (1, 3840), (1, 12), (1, 180), (1, 12), (1, 12), (4, 40), (1, 40), (1, 4000), (1, 4000), (1, 4000), (4, 4000), (4, 4000), (1, 20), (1, 20), (1, 5), (1, 5), (1, 5), (1, 5), (1, 5), (1, 5), (1, 5), (1, 5), (1, 5), (1, 5), (1, 5), (1, 5), (1, 5), (1, 5), (1, 5), (1, 5), (2, 5), (2, 5), (2, 5), (2, 5), (4, 5), (4, 5), (4, 5), (4, 60), (1, 19200), (1, 250), (1, 250), (2, 400), (2, 400), (2, 170), (2, 170), (2, 180), (2, 180)]
def lX12 : List (Nat × Nat) := [(3, 1), (4, 2), (8, 3), (9, 4), (10, 5), (11, 6), (12, 7), (13, 8), (20, 9), (21, 10), (22, 11), (23, 12), (24, 13), (26, 14), (27, 15), (28, 16), (29, 17), (30, 18), (31, 19), (32, 20), (33, 21), (34, 22), (35, 23), (36, 24), (37, 25), (38, 26), (39, 27), (40, 28), (41, 29), (42, 30), (43, 31), (44, 32), (45, 33), (46, 34), (47, 35), (48, 36), (49, 37), (50, 38), (51, 39), (52, 40), (53, 41), (54, 42), (55, 43), (56, 44), (57, 45), (58, 46), (61, 47), (62, 48)]
set_option maxRecDepth 20000 in
theorem mk_X12 : MkC (w_X12_init fun _ => none) 12 sX12 cX12 lX12 := by
  intro o X K KX h4 hN hS hI h
  have B0 := bd_start (ci := 12) hN hS hI
  refine (lfp_in (F := wpm (M_X12_init fun _ => none) B_X12_init K (fun _ _ _ E X _ _ => KX E X)) ?_ : r_X12_init (fun _ => none) K KX 0 (some (vR (some o)) :: [none]) [] X 0 0)
  show wpb (M_X12_init fun _ => none) (r_X12_init (fun _ => none) K KX) K (fun _ _ E X _ _ => KX E X) ((lk B_X12_init 0).getD []) (some (vR (some o)) :: [none]) [] X 0 0
  refine g_o rfl ?_
  refine g_i (ci := 12) (f := 1) (v := 2000) rfl (fun _ _ _ _ _ _ _ _ _ => rfl) rfl B0 (by decide) rfl (fun X1 B1 => ?_)
  refine g_i (ci := 12) (f := 2) (v := 4) rfl (fun _ _ _ _ _ _ _ _ _ => rfl) rfl B1 (by decide) rfl (fun X2 B2 => ?_)
  refine g_a (ci := 12) (f := 3) (n := 64) (nn := 64) (kk := 1) (m := 1) rfl (fun _ _ _ _ _ _ _ _ _ => rfl) (fun _ _ _ _ _ _ _ _ _ => rfl) (by decide) (by decide) (by decide) rfl B2 rfl (by decide) rfl (by decide) rfl (fun X3 B3 => ?_)
  refine g_a (ci := 12) (f := 4) (n := 3840) (nn := 3840) (kk := 1) (m := 2) rfl (fun _ _ _ _ _ _ _ _ _ => rfl) (fun _ _ _ _ _ _ _ _ _ => rfl) (by decide) (by decide) (by decide) rfl B3 rfl (by decide) rfl (by decide) rfl (fun X4 B4 => ?_)
  refine g_a (ci := 12) (f := 8) (n := 12) (nn := 12) (kk := 1) (m := 3) rfl (fun _ _ _ _ _ _ _ _ _ => rfl) (fun _ _ _ _ _ _ _ _ _ => rfl) (by decide) (by decide) (by decide) rfl B4 rfl (by decide) rfl (by decide) rfl (fun X5 B5 => ?_)
  refine g_a (ci := 12) (f := 9) (n := 180) (nn := 180) (kk := 1) (m := 4) rfl (fun _ _ _ _ _ _ _ _ _ => rfl) (fun _ _ _ _ _ _ _ _ _ => rfl) (by decide) (by decide) (by decide) rfl B5 rfl (by decide) rfl (by decide) rfl (fun X6 B6 => ?_)
  refine g_a (ci := 12) (f := 10) (n := 12) (nn := 12) (kk := 1) (m := 5) rfl (fun _ _ _ _ _ _ _ _ _ => rfl) (fun _ _ _ _ _ _ _ _ _ => rfl) (by decide) (by decide) (by decide) rfl B6 rfl (by decide) rfl (by decide) rfl (fun X7 B7 => ?_)
  refine g_a (ci := 12) (f := 11) (n := 12) (nn := 12) (kk := 1) (m := 6) rfl (fun _ _ _ _ _ _ _ _ _ => rfl) (fun _ _ _ _ _ _ _ _ _ => rfl) (by decide) (by decide) (by decide) rfl B7 rfl (by decide) rfl (by decide) rfl (fun X8 B8 => ?_)
  refine g_a (ci := 12) (f := 12) (n := 40) (nn := 40) (kk := 4) (m := 7) rfl (fun _ _ _ _ _ _ _ _ _ => rfl) (fun _ _ _ _ _ _ _ _ _ => rfl) (by decide) (by decide) (by decide) rfl B8 rfl (by decide) rfl (by decide) rfl (fun X9 B9 => ?_)
  refine g_a (ci := 12) (f := 13) (n := 40) (nn := 40) (kk := 1) (m := 8) rfl (fun _ _ _ _ _ _ _ _ _ => rfl) (fun _ _ _ _ _ _ _ _ _ => rfl) (by decide) (by decide) (by decide) rfl B9 rfl (by decide) rfl (by decide) rfl (fun X10 B10 => ?_)
  refine g_a (ci := 12) (f := 20) (n := 4000) (nn := 4000) (kk := 1) (m := 9) rfl (fun _ _ _ _ _ _ _ _ _ => rfl) (fun _ _ _ _ _ _ _ _ _ => rfl) (by decide) (by decide) (by decide) rfl B10 rfl (by decide) rfl (by decide) rfl (fun X11 B11 => ?_)
  refine g_a (ci := 12) (f := 21) (n := 4000) (nn := 4000) (kk := 1) (m := 10) rfl (fun _ _ _ _ _ _ _ _ _ => rfl) (fun _ _ _ _ _ _ _ _ _ => rfl) (by decide) (by decide) (by decide) rfl B11 rfl (by decide) rfl (by decide) rfl (fun X12 B12 => ?_)
  refine g_a (ci := 12) (f := 22) (n := 4000) (nn := 4000) (kk := 1) (m := 11) rfl (fun _ _ _ _ _ _ _ _ _ => rfl) (fun _ _ _ _ _ _ _ _ _ => rfl) (by decide) (by decide) (by decide) rfl B12 rfl (by decide) rfl (by decide) rfl (fun X13 B13 => ?_)
  refine g_a (ci := 12) (f := 23) (n := 4000) (nn := 4000) (kk := 4) (m := 12) rfl (fun _ _ _ _ _ _ _ _ _ => rfl) (fun _ _ _ _ _ _ _ _ _ => rfl) (by decide) (by decide) (by decide) rfl B13 rfl (by decide) rfl (by decide) rfl (fun X14 B14 => ?_)
  refine g_a (ci := 12) (f := 24) (n := 4000) (nn := 4000) (kk := 4) (m := 13) rfl (fun _ _ _ _ _ _ _ _ _ => rfl) (fun _ _ _ _ _ _ _ _ _ => rfl) (by decide) (by decide) (by decide) rfl B14 rfl (by decide) rfl (by decide) rfl (fun X15 B15 => ?_)
  refine g_a (ci := 12) (f := 26) (n := 20) (nn := 20) (kk := 1) (m := 14) rfl (fun _ _ _ _ _ _ _ _ _ => rfl) (fun _ _ _ _ _ _ _ _ _ => rfl) (by decide) (by decide) (by decide) rfl B15 rfl (by decide) rfl (by decide) rfl (fun X16 B16 => ?_)
  refine g_a (ci := 12) (f := 27) (n := 20) (nn := 20) (kk := 1) (m := 15) rfl (fun _ _ _ _ _ _ _ _ _ => rfl) (fun _ _ _ _ _ _ _ _ _ => rfl) (by decide) (by decide) (by decide) rfl B16 rfl (by decide) rfl (by decide) rfl (fun X17 B17 => ?_)
  refine g_a (ci := 12) (f := 28) (n := 5) (nn := 5) (kk := 1) (m := 16) rfl (fun _ _ _ _ _ _ _ _ _ => rfl) (fun _ _ _ _ _ _ _ _ _ => rfl) (by decide) (by decide) (by decide) rfl B17 rfl (by decide) rfl (by decide) rfl (fun X18 B18 => ?_)
  refine g_a (ci := 12) (f := 29) (n := 5) (nn := 5) (kk := 1) (m := 17) rfl (fun _ _ _ _ _ _ _ _ _ => rfl) (fun _ _ _ _ _ _ _ _ _ => rfl) (by decide) (by decide) (by decide) rfl B18 rfl (by decide) rfl (by decide) rfl (fun X19 B19 => ?_)
  refine g_a (ci := 12) (f := 30) (n := 5) (nn := 5) (kk := 1) (m := 18) rfl (fun _ _ _ _ _ _ _ _ _ => rfl) (fun _ _ _ _ _ _ _ _ _ => rfl) (by decide) (by decide) (by decide) rfl B19 rfl (by decide) rfl (by decide) rfl (fun X20 B20 => ?_)
  refine g_a (ci := 12) (f := 31) (n := 5) (nn := 5) (kk := 1) (m := 19) rfl (fun _ _ _ _ _ _ _ _ _ => rfl) (fun _ _ _ _ _ _ _ _ _ => rfl) (by decide) (by decide) (by decide) rfl B20 rfl (by decide) rfl (by decide) rfl (fun X21 B21 => ?_)
  refine g_a (ci := 12) (f := 32) (n := 5) (nn := 5) (kk := 1) (m := 20) rfl (fun _ _ _ _ _ _ _ _ _ => rfl) (fun _ _ _ _ _ _ _ _ _ => rfl) (by decide) (by decide) (by decide) rfl B21 rfl (by decide) rfl (by decide) rfl (fun X22 B22 => ?_)
  refine g_a (ci := 12) (f := 33) (n := 5) (nn := 5) (kk := 1) (m := 21) rfl (fun _ _ _ _ _ _ _ _ _ => rfl) (fun _ _ _ _ _ _ _ _ _ => rfl) (by decide) (by decide) (by decide) rfl B22 rfl (by decide) rfl (by decide) rfl (fun X23 B23 => ?_)
  refine g_a (ci := 12) (f := 34) (n := 5) (nn := 5) (kk := 1) (m := 22) rfl (fun _ _ _ _ _ _ _ _ _ => rfl) (fun _ _ _ _ _ _ _ _ _ => rfl) (by decide) (by decide) (by decide) rfl B23 rfl (by decide) rfl (by decide) rfl (fun X24 B24 => ?_)
  refine g_a (ci := 12) (f := 35) (n := 5) (nn := 5) (kk := 1) (m := 23) rfl (fun _ _ _ _ _ _ _ _ _ => rfl) (fun _ _ _ _ _ _ _ _ _ => rfl) (by decide) (by decide) (by decide) rfl B24 rfl (by decide) rfl (by decide) rfl (fun X25 B25 => ?_)
  refine g_a (ci := 12) (f := 36) (n := 5) (nn := 5) (kk := 1) (m := 24) rfl (fun _ _ _ _ _ _ _ _ _ => rfl) (fun _ _ _ _ _ _ _ _ _ => rfl) (by decide) (by decide) (by decide) rfl B25 rfl (by decide) rfl (by decide) rfl (fun X26 B26 => ?_)
  refine g_a (ci := 12) (f := 37) (n := 5) (nn := 5) (kk := 1) (m := 25) rfl (fun _ _ _ _ _ _ _ _ _ => rfl) (fun _ _ _ _ _ _ _ _ _ => rfl) (by decide) (by decide) (by decide) rfl B26 rfl (by decide) rfl (by decide) rfl (fun X27 B27 => ?_)
  refine g_a (ci := 12) (f := 38) (n := 5) (nn := 5) (kk := 1) (m := 26) rfl (fun _ _ _ _ _ _ _ _ _ => rfl) (fun _ _ _ _ _ _ _ _ _ => rfl) (by decide) (by decide) (by decide) rfl B27 rfl (by decide) rfl (by decide) rfl (fun X28 B28 => ?_)
  refine g_a (ci := 12) (f := 39) (n := 5) (nn := 5) (kk := 1) (m := 27) rfl (fun _ _ _ _ _ _ _ _ _ => rfl) (fun _ _ _ _ _ _ _ _ _ => rfl) (by decide) (by decide) (by decide) rfl B28 rfl (by decide) rfl (by decide) rfl (fun X29 B29 => ?_)
  refine g_a (ci := 12) (f := 40) (n := 5) (nn := 5) (kk := 1) (m := 28) rfl (fun _ _ _ _ _ _ _ _ _ => rfl) (fun _ _ _ _ _ _ _ _ _ => rfl) (by decide) (by decide) (by decide) rfl B29 rfl (by decide) rfl (by decide) rfl (fun X30 B30 => ?_)
  refine g_a (ci := 12) (f := 41) (n := 5) (nn := 5) (kk := 1) (m := 29) rfl (fun _ _ _ _ _ _ _ _ _ => rfl) (fun _ _ _ _ _ _ _ _ _ => rfl) (by decide) (by decide) (by decide) rfl B30 rfl (by decide) rfl (by decide) rfl (fun X31 B31 => ?_)
  refine g_a (ci := 12) (f := 42) (n := 5) (nn := 5) (kk := 1) (m := 30) rfl (fun _ _ _ _ _ _ _ _ _ => rfl) (fun _ _ _ _ _ _ _ _ _ => rfl) (by decide) (by decide) (by decide) rfl B31 rfl (by decide) rfl (by decide) rfl (fun X32 B32 => ?_)
  refine g_a (ci := 12) (f := 43) (n := 5) (nn := 5) (kk := 1) (m := 31) rfl (fun _ _ _ _ _ _ _ _ _ => rfl) (fun _ _ _ _ _ _ _ _ _ => rfl) (by decide) (by decide) (by decide) rfl B32 rfl (by decide) rfl (by decide) rfl (fun X33 B33 => ?_)
  refine g_a (ci := 12) (f := 44) (n := 5) (nn := 5) (kk := 2) (m := 32) rfl (fun _ _ _ _ _ _ _ _ _ => rfl) (fun _ _ _ _ _ _ _ _ _ => rfl) (by decide) (by decide) (by decide) rfl B33 rfl (by decide) rfl (by decide) rfl (fun X34 B34 => ?_)
  refine g_a (ci := 12) (f := 45) (n := 5) (nn := 5) (kk := 2) (m := 33) rfl (fun _ _ _ _ _ _ _ _ _ => rfl) (fun _ _ _ _ _ _ _ _ _ => rfl) (by decide) (by decide) (by decide) rfl B34 rfl (by decide) rfl (by decide) rfl (fun X35 B35 => ?_)
  refine g_a (ci := 12) (f := 46) (n := 5) (nn := 5) (kk := 2) (m := 34) rfl (fun _ _ _ _ _ _ _ _ _ => rfl) (fun _ _ _ _ _ _ _ _ _ => rfl) (by decide) (by decide) (by decide) rfl B35 rfl (by decide) rfl (by decide) rfl (fun X36 B36 => ?_)
  refine g_a (ci := 12) (f := 47) (n := 5) (nn := 5) (kk := 2) (m := 35) rfl (fun _ _ _ _ _ _ _ _ _ => rfl) (fun _ _ _ _ _ _ _ _ _ => rfl) (by decide) (by decide) (by decide) rfl B36 rfl (by decide) rfl (by decide) rfl (fun X37 B37 => ?_)
  refine g_a (ci := 12) (f := 48) (n := 5) (nn := 5) (kk := 4) (m := 36) rfl (fun _ _ _ _ _ _ _ _ _ => rfl) (fun _ _ _ _ _ _ _ _ _ => rfl) (by decide) (by decide) (by decide) rfl B37 rfl (by decide) rfl (by decide) rfl (fun X38 B38 => ?_)
  refine g_a (ci := 12) (f := 49) (n := 5) (nn := 5) (kk := 4) (m := 37) rfl (fun _ _ _ _ _ _ _ _ _ => rfl) (fun _ _ _ _ _ _ _ _ _ => rfl) (by decide) (by decide) (by decide) rfl B38 rfl (by decide) rfl (by decide) rfl (fun X39 B39 => ?_)
  refine g_a (ci := 12) (f := 50) (n := 5) (nn := 5) (kk := 4) (m := 38) rfl (fun _ _ _ _ _ _ _ _ _ => rfl) (fun _ _ _ _ _ _ _ _ _ => rfl) (by decide) (by decide) (by decide) rfl B39 rfl (by decide) rfl (by decide) rfl (fun X40 B40 => ?_)
  refine g_a (ci := 12) (f := 51) (n := 60) (nn := 60) (kk := 4) (m := 39) rfl (fun _ _ _ _ _ _ _ _ _ => rfl) (fun _ _ _ _ _ _ _ _ _ => rfl) (by decide) (by decide) (by decide) rfl B40 rfl (by decide) rfl (by decide) rfl (fun X41 B41 => ?_)
  refine g_a (ci := 12) (f := 52) (n := 19200) (nn := 19200) (kk := 1) (m := 40) rfl (fun _ _ _ _ _ _ _ _ _ => rfl) (fun _ _ _ _ _ _ _ _ _ => rfl) (by decide) (by decide) (by decide) rfl B41 rfl (by decide) rfl (by decide) rfl (fun X42 B42 => ?_)
  refine g_a (ci := 12) (f := 53) (n := 250) (nn := 250) (kk := 1) (m := 41) rfl (fun _ _ _ _ _ _ _ _ _ => rfl) (fun _ _ _ _ _ _ _ _ _ => rfl) (by decide) (by decide) (by decide) rfl B42 rfl (by decide) rfl (by decide) rfl (fun X43 B43 => ?_)
  refine g_a (ci := 12) (f := 54) (n := 250) (nn := 250) (kk := 1) (m := 42) rfl (fun _ _ _ _ _ _ _ _ _ => rfl) (fun _ _ _ _ _ _ _ _ _ => rfl) (by decide) (by decide) (by decide) rfl B43 rfl (by decide) rfl (by decide) rfl (fun X44 B44 => ?_)
  refine g_a (ci := 12) (f := 55) (n := 400) (nn := 400) (kk := 2) (m := 43) rfl (fun _ _ _ _ _ _ _ _ _ => rfl) (fun _ _ _ _ _ _ _ _ _ => rfl) (by decide) (by decide) (by decide) rfl B44 rfl (by decide) rfl (by decide) rfl (fun X45 B45 => ?_)
  refine g_a (ci := 12) (f := 56) (n := 400) (nn := 400) (kk := 2) (m := 44) rfl (fun _ _ _ _ _ _ _ _ _ => rfl) (fun _ _ _ _ _ _ _ _ _ => rfl) (by decide) (by decide) (by decide) rfl B45 rfl (by decide) rfl (by decide) rfl (fun X46 B46 => ?_)
  refine g_a (ci := 12) (f := 57) (n := 170) (nn := 170) (kk := 2) (m := 45) rfl (fun _ _ _ _ _ _ _ _ _ => rfl) (fun _ _ _ _ _ _ _ _ _ => rfl) (by decide) (by decide) (by decide) rfl B46 rfl (by decide) rfl (by decide) rfl (fun X47 B47 => ?_)
  refine g_a (ci := 12) (f := 58) (n := 170) (nn := 170) (kk := 2) (m := 46) rfl (fun _ _ _ _ _ _ _ _ _ => rfl) (fun _ _ _ _ _ _ _ _ _ => rfl) (by decide) (by decide) (by decide) rfl B47 rfl (by decide) rfl (by decide) rfl (fun X48 B48 => ?_)
  refine g_a (ci := 12) (f := 61) (n := 180) (nn := 180) (kk := 2) (m := 47) rfl (fun _ _ _ _ _ _ _ _ _ => rfl) (fun _ _ _ _ _ _ _ _ _ => rfl) (by decide) (by decide) (by decide) rfl B48 rfl (by decide) rfl (by decide) rfl (fun X49 B49 => ?_)
  refine g_a (ci := 12) (f := 62) (n := 180) (nn := 180) (kk := 2) (m := 48) rfl (fun _ _ _ _ _ _ _ _ _ => rfl) (fun _ _ _ _ _ _ _ _ _ => rfl) (by decide) (by decide) (by decide) rfl B49 rfl (by decide) rfl (by decide) rfl (fun X50 B50 => ?_)
  show r_X12_init (fun _ => none) K KX 395 [some (vR (some o)), some (vI (nI 0))] [] X50 _ _
  have er : xR X50 o 3 = some (o + 1) := B50.2.2.2 (3, 1) (by decide)
  have e0 : xS X50 o = (22, 0) := B50.2.2.1 0 (by decide) |>.1
  have e2 : xS X50 (o + 1) = (1, 64) := (B50.2.2.1 1 (by decide)).1
  have zz := n_X12_loop (K := K) (KX := KX) (S := xS X50) (F := xI X50) (J := xJ X50) (R := xR X50) (nn := xN X50) (k := 48) (z := 45615) h4 e0 er e2 (fun g g1 g2 => ?_) 64 0 (xI X50 (o + 1)) rfl (fun j hj => absurd hj (Nat.not_lt_zero _)) (fun j _ => rfl)
  · rw [u1_self] at zz
    exact zz
  · have B99 := bd_fill (S := xS X50) (F := xI X50) (J := xJ X50) (R := xR X50) (nn := xN X50) (d0 := 1) B50 (by decide) g1 g2
    exact lfp_in (g_r (M := M_X12_init fun _ => none) (P := r_X12_init (fun _ => none) K KX) (HX := fun _ _ E X _ _ => KX E X) (L := [some (vI (nI 64))]) (p := 414) (k := 48) (z := 45615) (ci := 12) rfl rfl B99 (by decide) rfl (by decide) h)
