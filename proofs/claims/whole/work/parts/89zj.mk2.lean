/-! the constructors, one by one -/
def cFill (cs : Nat → Nat → Int32) (d0 : Nat) : Nat → Nat → Int32 := fun d j => if d = d0 ∧ j < 64 then -1 else cs d j
set_option maxRecDepth 20000 in
theorem bd_fill {o d0 : Nat} {X0 : AX} {ss : List (Nat × Nat)} {cs : Nat → Nat → Int32} {rl : List (Nat × Nat)} {S : Nat → Nat × Nat} {F : Nat → Nat → Int32} {J : Nat → Nat → Int64} {R : Nat → Nat → Option Nat} {nn : Nat} {g : Nat → Int32} (h : Bd o X0 (S, F, J, R, nn) ss cs rl) (hd : d0 < ss.length) (h1 : ∀ j, j < 64 → g j = -1) (h2 : ∀ j, 64 ≤ j → g j = F (o + d0) j) : Bd o X0 (S, u1 F (o + d0) g, J, R, nn) ss (cFill cs d0) rl := by
  obtain ⟨a, b, c, e⟩ := h
  refine ⟨a, fun i hi => ⟨(b i hi).1, (u1_ne _ _ (by omega)).trans (b i hi).2.1, (b i hi).2.2⟩, fun q hq => ⟨(c q hq).1, ?_⟩, e⟩
  show u1 F (o + d0) g (o + q) = _
  have c2 : F (o + q) = cs q := (c q hq).2
  funext j
  by_cases e1 : q = d0
  · subst e1
    rw [u1_at]
    show g j = if q = q ∧ j < 64 then -1 else cs q j
    by_cases e2 : j < 64
    · rw [if_pos ⟨rfl, e2⟩, h1 j e2]
    · rw [if_neg (fun w => e2 w.2), h2 j (by omega), c2]
  · rw [u1_ne _ _ (by omega), c2]
    show _ = if q = d0 ∧ j < 64 then -1 else cs q j
    rw [if_neg (fun w => e1 w.1)]
section Fill
variable {S : Nat → Nat × Nat} {F : Nat → Nat → Int32} {J : Nat → Nat → Int64} {R : Nat → Nat → Option Nat} {nn : Nat} {K : Option AV → AX → Prop} {KX : String → AX → Prop}
set_option maxRecDepth 20000 in
theorem n_fill_0 {b0 : Nat} {a1 : Int32} {X : AX} (h : gd (0 < (xS X b0).1 ∧ (xS X b0).1 < 6) (r_J7_fill_53178 (fun _ => none) K KX 5 [some (vR (some b0)), some (vI a1), some (vI 0), some (vI (Int32.ofNat (xS X b0).2))] [] X 0 0)) : w_J7_fill_53178 (fun _ => none) [vR (some b0), vI a1] X K KX := (lfp_in h : r_J7_fill_53178 (fun _ => none) K KX 0 [some (vR (some b0)), some (vI a1), none, none] [] X 0 0)
set_option maxRecDepth 20000 in
theorem n_fill_5 {b0 : Nat} {l1 l2 l3 : Int32} {X : AX} (h : (l3 ≤ l2 → r_J7_fill_53178 (fun _ => none) K KX 20 [some (vR (some b0)), some (vI l1), some (vI l2), some (vI l3)] [] X 0 0) ∧ (¬ l3 ≤ l2 → gd (4 ≤ b0 ∧ (xS X b0).1 = 1) (vp_in l2 (xS X b0).2 ∧ (r_J7_fill_53178 (fun _ => none) K KX 5 [some (vR (some b0)), some (vI l1), some (vI (l2 + 1)), some (vI l3)] [] (xS X, u2 (xI X) b0 l2.toNatClampNeg l1, xJ X, xR X, xN X) 0 0)))) : r_J7_fill_53178 (fun _ => none) K KX 5 [some (vR (some b0)), some (vI l1), some (vI l2), some (vI l3)] [] X 0 0 := lfp_in h
set_option maxRecDepth 20000 in
theorem n_fill_20 {b0 : Nat} {l1 l2 l3 : Int32} {X : AX} (h : K none X) : r_J7_fill_53178 (fun _ => none) K KX 20 [some (vR (some b0)), some (vI l1), some (vI l2), some (vI l3)] [] X 0 0 := lfp_in h
set_option maxRecDepth 20000 in
theorem n_fill_loop {b : Nat} (h4 : 4 ≤ b) (hsh : S b = (1, 64)) (hK : ∀ g : Nat → Int32, (∀ j, j < 64 → g j = -1) → (∀ j, 64 ≤ j → g j = F b j) → K none (S, u1 F b g, J, R, nn)) :
    ∀ (r i : Nat) (g : Nat → Int32), i + r = 64 → (∀ j, j < i → g j = -1) → (∀ j, i ≤ j → g j = F b j) → r_J7_fill_53178 (fun _ => none) K KX 5 [some (vR (some b)), some (vI (-1)), some (vI (nI i)), some (vI (nI 64))] [] (S, u1 F b g, J, R, nn) 0 0
  | 0, i, g, hi, hg, hg2 => by
    have e : i = 64 := by omega
    subst e
    exact n_fill_5 ⟨fun _ => n_fill_20 (hK g hg hg2), fun c => absurd (nI_le (a := 64) (Nat.le_refl _) (by decide)) c⟩
  | r + 1, i, g, hi, hg, hg2 => by
    refine n_fill_5 ⟨fun c => absurd c (nI_ge (a := i) (b := 64) (by omega) (by decide)), fun _ => ?_⟩
    have hs : xS (S, u1 F b g, J, R, nn) b = (1, 64) := hsh
    rw [hs]
    refine gd_in ⟨h4, rfl⟩ ⟨vp_in_nI (by omega) (by decide), ?_⟩
    rw [nI_1, nI_clamp (by omega)]
    show r_J7_fill_53178 (fun _ => none) K KX 5 _ [] (S, u2 (u1 F b g) b i (-1), J, R, nn) 0 0
    rw [u2_u1]
    refine n_fill_loop h4 hsh hK r (i + 1) _ (by omega) (fun j hj => ?_) (fun j hj => ?_)
    · by_cases e : j = i
      · subst e; rw [stf_at]
      · rw [stf_ne _ _ e]; exact hg j (by omega)
    · rw [stf_ne _ _ (by omega)]; exact hg2 j (by omega)
set_option maxRecDepth 20000 in
theorem n_fill {b : Nat} (h4 : 4 ≤ b) (hsh : S b = (1, 64)) (hK : ∀ g : Nat → Int32, (∀ j, j < 64 → g j = -1) → (∀ j, 64 ≤ j → g j = F b j) → K none (S, u1 F b g, J, R, nn)) : w_J7_fill_53178 (fun _ => none) [vR (some b), vI (-1)] (S, F, J, R, nn) K KX := by
  refine n_fill_0 ?_
  have hs : xS (S, F, J, R, nn) b = (1, 64) := hsh
  rw [hs]
  refine gd_in (show (0 : Nat) < 1 ∧ (1 : Nat) < 6 from by decide) ?_
  have z := n_fill_loop (K := K) (KX := KX) (S := S) (F := F) (J := J) (R := R) (nn := nn) h4 hsh hK 64 0 (F b) rfl (fun j hj => absurd hj (Nat.not_lt_zero _)) (fun j _ => rfl)
  rw [u1_self] at z
  exact z
end Fill
def cX9 : Nat → Nat → Int32 := (fun _ _ => 0)
def sX9 : List (Nat × Nat) := [(19, 1), (4, 40), (1, 40)]
def lX9 : List (Nat × Nat) := [(0, 1), (1, 2)]
set_option maxRecDepth 20000 in
theorem mk_X9 : MkC (w_X9_init fun _ => none) 9 sX9 cX9 lX9 := by
  intro o X K KX h4 hN hS hI h
  have B0 := bd_start (ci := 9) hN hS hI
  refine (lfp_in (F := wpm (M_X9_init fun _ => none) B_X9_init K (fun _ _ _ E X _ _ => KX E X)) ?_ : r_X9_init (fun _ => none) K KX 0 (some (vR (some o)) :: []) [] X 0 0)
  show wpb (M_X9_init fun _ => none) (r_X9_init (fun _ => none) K KX) K (fun _ _ E X _ _ => KX E X) ((lk B_X9_init 0).getD []) (some (vR (some o)) :: []) [] X 0 0
  refine g_o rfl ?_
  refine g_a (ci := 9) (f := 0) (n := 40) (nn := 40) (kk := 4) (m := 1) rfl (fun _ _ _ _ _ _ _ _ _ => rfl) (fun _ _ _ _ _ _ _ _ _ => rfl) (by decide) (by decide) (by decide) rfl B0 rfl (by decide) rfl (by decide) rfl (fun X1 B1 => ?_)
  refine g_a (ci := 9) (f := 1) (n := 40) (nn := 40) (kk := 1) (m := 2) rfl (fun _ _ _ _ _ _ _ _ _ => rfl) (fun _ _ _ _ _ _ _ _ _ => rfl) (by decide) (by decide) (by decide) rfl B1 rfl (by decide) rfl (by decide) rfl (fun X2 B2 => ?_)
  exact g_r (ci := 9) rfl rfl B2 (by decide) rfl (by decide) h
def cX10 : Nat → Nat → Int32 := (fun _ _ => 0)
def sX10 : List (Nat × Nat) := [(20, 1), (1, 20), (1, 20)]
def lX10 : List (Nat × Nat) := [(0, 1), (1, 2)]
set_option maxRecDepth 20000 in
theorem mk_X10 : MkC (w_X10_init fun _ => none) 10 sX10 cX10 lX10 := by
  intro o X K KX h4 hN hS hI h
  have B0 := bd_start (ci := 10) hN hS hI
  refine (lfp_in (F := wpm (M_X10_init fun _ => none) B_X10_init K (fun _ _ _ E X _ _ => KX E X)) ?_ : r_X10_init (fun _ => none) K KX 0 (some (vR (some o)) :: []) [] X 0 0)
  show wpb (M_X10_init fun _ => none) (r_X10_init (fun _ => none) K KX) K (fun _ _ E X _ _ => KX E X) ((lk B_X10_init 0).getD []) (some (vR (some o)) :: []) [] X 0 0
  refine g_o rfl ?_
  refine g_a (ci := 10) (f := 0) (n := 20) (nn := 20) (kk := 1) (m := 1) rfl (fun _ _ _ _ _ _ _ _ _ => rfl) (fun _ _ _ _ _ _ _ _ _ => rfl) (by decide) (by decide) (by decide) rfl B0 rfl (by decide) rfl (by decide) rfl (fun X1 B1 => ?_)
  refine g_a (ci := 10) (f := 1) (n := 20) (nn := 20) (kk := 1) (m := 2) rfl (fun _ _ _ _ _ _ _ _ _ => rfl) (fun _ _ _ _ _ _ _ _ _ => rfl) (by decide) (by decide) (by decide) rfl B1 rfl (by decide) rfl (by decide) rfl (fun X2 B2 => ?_)
  exact g_r (ci := 10) rfl rfl B2 (by decide) rfl (by decide) h
set_option maxRecDepth 20000 in
theorem n_X7_tail {P : PT} {K : Option AV → AX → Prop} {HX : Nat → LT → String → AX → Nat → Nat → Prop} {o k z : Nat} {X : AX} (h : gd (isC 7 (xS X o).1 = true) (onSome (xR X o 1) fun a => gd (4 ≤ a ∧ (xS X a).1 = 1) (vp_in 0 (xS X a).2 ∧ wpb (M_X7_init fun _ => none) P K HX [(40, .return_, 1)] [some (vR (some o))] [] (xS X, u2 (xI X) a 0 1, xJ X, xR X, xN X) k z))) : wpb (M_X7_init fun _ => none) P K HX [(33, .aload_n 0, 1), (34, .getfield 13, 3), (37, .iconst 0, 1), (38, .iconst 1, 1), (39, .iastore, 1), (40, .return_, 1)] [some (vR (some o))] [] X k z := h
def cX7 : Nat → Nat → Int32 := (u2 (u2 (fun _ _ => 0) 0 3 2) 2 0 1)
def sX7 : List (Nat × Nat) := [(17, 1), (1, 24), (1, 24), (1, 24)]
def lX7 : List (Nat × Nat) := [(0, 1), (1, 2), (2, 3)]
set_option maxRecDepth 20000 in
theorem mk_X7 : MkC (w_X7_init fun _ => none) 7 sX7 cX7 lX7 := by
  intro o X K KX h4 hN hS hI h
  have B0 := bd_start (ci := 7) hN hS hI
  refine (lfp_in (F := wpm (M_X7_init fun _ => none) B_X7_init K (fun _ _ _ E X _ _ => KX E X)) ?_ : r_X7_init (fun _ => none) K KX 0 (some (vR (some o)) :: []) [] X 0 0)
  show wpb (M_X7_init fun _ => none) (r_X7_init (fun _ => none) K KX) K (fun _ _ E X _ _ => KX E X) ((lk B_X7_init 0).getD []) (some (vR (some o)) :: []) [] X 0 0
  refine g_o rfl ?_
  refine g_a (ci := 7) (f := 0) (n := 24) (nn := 24) (kk := 1) (m := 1) rfl (fun _ _ _ _ _ _ _ _ _ => rfl) (fun _ _ _ _ _ _ _ _ _ => rfl) (by decide) (by decide) (by decide) rfl B0 rfl (by decide) rfl (by decide) rfl (fun X1 B1 => ?_)
  refine g_a (ci := 7) (f := 1) (n := 24) (nn := 24) (kk := 1) (m := 2) rfl (fun _ _ _ _ _ _ _ _ _ => rfl) (fun _ _ _ _ _ _ _ _ _ => rfl) (by decide) (by decide) (by decide) rfl B1 rfl (by decide) rfl (by decide) rfl (fun X2 B2 => ?_)
  refine g_a (ci := 7) (f := 2) (n := 24) (nn := 24) (kk := 1) (m := 3) rfl (fun _ _ _ _ _ _ _ _ _ => rfl) (fun _ _ _ _ _ _ _ _ _ => rfl) (by decide) (by decide) (by decide) rfl B2 rfl (by decide) rfl (by decide) rfl (fun X3 B3 => ?_)
  refine g_i (ci := 7) (f := 3) (v := 2) rfl (fun _ _ _ _ _ _ _ _ _ => rfl) rfl B3 (by decide) rfl (fun X4 B4 => ?_)
  have er : xR X4 o 1 = some (o + 2) := B4.2.2.2 (1, 2) (by decide)
  have e0 : xS X4 o = (17, 0) := B4.2.2.1 0 (by decide) |>.1
  have e2 : xS X4 (o + 2) = (1, 24) := (B4.2.2.1 2 (by decide)).1
  refine (n_X7_tail (o := o) (X := X4) ?_)
  rw [e0, er]
  refine gd_in rfl ?_
  show gd (4 ≤ o + 2 ∧ (xS X4 (o + 2)).1 = 1) _
  rw [e2]
  refine gd_in ⟨by omega, rfl⟩ ⟨by unfold vp_in; decide, ?_⟩
  have B9 := bd_putI B4 2 0 1
  exact g_r (ci := 7) rfl rfl B9 (by decide) rfl (by decide) h
def cX5 : Nat → Nat → Int32 := (cJn 1 (fun _ _ => 0) cX7)
def sX5 : List (Nat × Nat) := [(15, 1), (17, 1), (1, 24), (1, 24), (1, 24)]
def lX5 : List (Nat × Nat) := [(0, 1)]
set_option maxRecDepth 20000 in
theorem mk_X5 : MkC (w_X5_init fun _ => none) 5 sX5 cX5 lX5 := by
  intro o X K KX h4 hN hS hI h
  have B0 := bd_start (ci := 5) hN hS hI
  refine (lfp_in (F := wpm (M_X5_init fun _ => none) B_X5_init K (fun _ _ _ E X _ _ => KX E X)) ?_ : r_X5_init (fun _ => none) K KX 0 (some (vR (some o)) :: []) [] X 0 0)
  show wpb (M_X5_init fun _ => none) (r_X5_init (fun _ => none) K KX) K (fun _ _ E X _ _ => KX E X) ((lk B_X5_init 0).getD []) (some (vR (some o)) :: []) [] X 0 0
  refine g_o rfl ?_
  refine g_n (ci := 5) (cj := 7) (f := 0) (m := 1) (mc := 3) (ms := 72) rfl rfl rfl ⟨by decide, by decide⟩ ⟨by decide, by decide⟩ rfl B0 rfl (by decide) rfl (by decide) h4 mk_X7 (fun X1 B1 => ?_)
  exact g_r (ci := 5) rfl rfl B1 (by decide) rfl (by decide) h
set_option maxRecDepth 20000 in
theorem n_X8_tail {P : PT} {K : Option AV → AX → Prop} {HX : Nat → LT → String → AX → Nat → Nat → Prop} {o : Nat} {X : AX} (h : gd (isC 8 (xS X o).1 = true) (w_J7_fill_53178 (fun _ => none) [vR (xR X o 1), vI (-1)] X (fun v X1 => rV v (wpb (M_X8_init fun _ => none) P K HX [(29, .return_, 1)] [some (vR (some o))] [] X1 2 3904)) (fun E X1 => HX 26 [some (vR (some o))] E X1 2 3904))) : wpb (M_X8_init fun _ => none) P K HX [(21, .aload_n 0, 1), (22, .getfield 15, 3), (25, .iconst (-1), 1), (26, .invokestatic 19, 3), (29, .return_, 1)] [some (vR (some o))] [] X 2 3904 := h
def cX8 : Nat → Nat → Int32 := (cFill (fun _ _ => 0) 2)
def sX8 : List (Nat × Nat) := [(18, 1), (3, 3840), (1, 64)]
def lX8 : List (Nat × Nat) := [(0, 1), (1, 2)]
set_option maxRecDepth 20000 in
theorem mk_X8 : MkC (w_X8_init fun _ => none) 8 sX8 cX8 lX8 := by
  intro o X K KX h4 hN hS hI h
  have B0 := bd_start (ci := 8) hN hS hI
  refine (lfp_in (F := wpm (M_X8_init fun _ => none) B_X8_init K (fun _ _ _ E X _ _ => KX E X)) ?_ : r_X8_init (fun _ => none) K KX 0 (some (vR (some o)) :: []) [] X 0 0)
  show wpb (M_X8_init fun _ => none) (r_X8_init (fun _ => none) K KX) K (fun _ _ E X _ _ => KX E X) ((lk B_X8_init 0).getD []) (some (vR (some o)) :: []) [] X 0 0
  refine g_o rfl ?_
  refine g_a (ci := 8) (f := 0) (n := 3840) (nn := 3840) (kk := 3) (m := 1) rfl (fun _ _ _ _ _ _ _ _ _ => rfl) (fun _ _ _ _ _ _ _ _ _ => rfl) (by decide) (by decide) (by decide) rfl B0 rfl (by decide) rfl (by decide) rfl (fun X1 B1 => ?_)
  refine g_a (ci := 8) (f := 1) (n := 64) (nn := 64) (kk := 1) (m := 2) rfl (fun _ _ _ _ _ _ _ _ _ => rfl) (fun _ _ _ _ _ _ _ _ _ => rfl) (by decide) (by decide) (by decide) rfl B1 rfl (by decide) rfl (by decide) rfl (fun X2 B2 => ?_)
  have er : xR X2 o 1 = some (o + 2) := B2.2.2.2 (1, 2) (by decide)
  have e0 : xS X2 o = (18, 0) := B2.2.2.1 0 (by decide) |>.1
  have e2 : xS X2 (o + 2) = (1, 64) := (B2.2.2.1 2 (by decide)).1
  refine (n_X8_tail (o := o) (X := X2) ?_)
  rw [e0, er]
  refine gd_in rfl (n_fill (S := xS X2) (F := xI X2) (J := xJ X2) (R := xR X2) (nn := xN X2) (by omega) e2 (fun g g1 g2 => rV_in ?_))
  have B9 := bd_fill (S := xS X2) (F := xI X2) (J := xJ X2) (R := xR X2) (nn := xN X2) (d0 := 2) B2 (by decide) g1 g2
  exact g_r (ci := 8) rfl rfl B9 (by decide) rfl (by decide) h
def cX4 : Nat → Nat → Int32 := (u2 (cJn 1 (fun _ _ => 0) cX5) 0 5 (-1))
def sX4 : List (Nat × Nat) := [(14, 1), (15, 1), (17, 1), (1, 24), (1, 24), (1, 24), (3, 3840), (1, 50), (5, 50)]
def lX4 : List (Nat × Nat) := [(0, 1), (1, 6), (2, 7), (3, 8)]
set_option maxRecDepth 20000 in
theorem mk_X4 : MkC (w_X4_init fun _ => none) 4 sX4 cX4 lX4 := by
  intro o X K KX h4 hN hS hI h
  have B0 := bd_start (ci := 4) hN hS hI
  refine (lfp_in (F := wpm (M_X4_init fun _ => none) B_X4_init K (fun _ _ _ E X _ _ => KX E X)) ?_ : r_X4_init (fun _ => none) K KX 0 (some (vR (some o)) :: []) [] X 0 0)
  show wpb (M_X4_init fun _ => none) (r_X4_init (fun _ => none) K KX) K (fun _ _ E X _ _ => KX E X) ((lk B_X4_init 0).getD []) (some (vR (some o)) :: []) [] X 0 0
  refine g_o rfl ?_
  refine g_n (ci := 4) (cj := 5) (f := 0) (m := 1) (mc := 4) (ms := 76) rfl rfl rfl ⟨by decide, by decide⟩ ⟨by decide, by decide⟩ rfl B0 rfl (by decide) rfl (by decide) h4 mk_X5 (fun X1 B1 => ?_)
  refine g_a (ci := 4) (f := 1) (n := 3840) (nn := 3840) (kk := 3) (m := 6) rfl (fun _ _ _ _ _ _ _ _ _ => rfl) (fun _ _ _ _ _ _ _ _ _ => rfl) (by decide) (by decide) (by decide) rfl B1 rfl (by decide) rfl (by decide) rfl (fun X2 B2 => ?_)
  refine g_a (ci := 4) (f := 2) (n := 50) (nn := 50) (kk := 1) (m := 7) rfl (fun _ _ _ _ _ _ _ _ _ => rfl) (fun _ _ _ _ _ _ _ _ _ => rfl) (by decide) (by decide) (by decide) rfl B2 rfl (by decide) rfl (by decide) rfl (fun X3 B3 => ?_)
  refine g_a (ci := 4) (f := 3) (n := 50) (nn := 50) (kk := 5) (m := 8) rfl (fun _ _ _ _ _ _ _ _ _ => rfl) (fun _ _ _ _ _ _ _ _ _ => rfl) (by decide) (by decide) (by decide) rfl B3 rfl (by decide) rfl (by decide) rfl (fun X4 B4 => ?_)
  refine g_i (ci := 4) (f := 5) (v := (-1)) rfl (fun _ _ _ _ _ _ _ _ _ => rfl) rfl B4 (by decide) rfl (fun X5 B5 => ?_)
  exact g_r (ci := 4) rfl rfl B5 (by decide) rfl (by decide) h
