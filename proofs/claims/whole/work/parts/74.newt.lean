/-! making a tariff -/
set_option maxRecDepth 20000 in
theorem i_X1_init {d : Nat} {a0 : Int32} {X : AX} {K : Option AV → AX → Prop} {KX : String → AX → Prop} (h : gd (0 < 1 ∧ (shp tb0 X 1).1 = 1) (gd (tb0 (xN X) = none) (gd (1 ≤ 8 ∧ 0 + 1 ≤ 1 ∧ 0 + (shp tb0 X 1).2 ≤ 15) (gd (4 ≤ (xN X) ∧ (shp tb0 (cloneX X 1 (shp tb0 X 1).2) (xN X)).1 = 1) (gd (isC 1 (shp tb0 (cloneX X 1 (shp tb0 X 1).2) d).1 = true) (gd (off 1 1 = none ∨ (shp tb0 (cloneX X 1 (shp tb0 X 1).2) d).2 = 0) (gd (isC 1 (shp tb0 (xS (cloneX X 1 (shp tb0 X 1).2), xI (cloneX X 1 (shp tb0 X 1).2), xJ (cloneX X 1 (shp tb0 X 1).2), u2 (xR (cloneX X 1 (shp tb0 X 1).2)) d 1 (some (xN X)), xN (cloneX X 1 (shp tb0 X 1).2)) d).1 = true) (gd (tb0 d = none) (∃ ci, shp tb0 (xS (cloneX X 1 (shp tb0 X 1).2), u2 (xI (cloneX X 1 (shp tb0 X 1).2)) d 0 a0, xJ (cloneX X 1 (shp tb0 X 1).2), u2 (xR (cloneX X 1 (shp tb0 X 1).2)) d 1 (some (xN X)), xN (cloneX X 1 (shp tb0 X 1).2)) d = (ci + 10, 0) ∧ allL (fun q => xR (xS (cloneX X 1 (shp tb0 X 1).2), u2 (xI (cloneX X 1 (shp tb0 X 1).2)) d 0 a0, xJ (cloneX X 1 (shp tb0 X 1).2), u2 (xR (cloneX X 1 (shp tb0 X 1).2)) d 1 (some (xN X)), xN (cloneX X 1 (shp tb0 X 1).2)) d q.1 = some (d + q.2)) (offL ci) ∧ K none (madeX (xS (cloneX X 1 (shp tb0 X 1).2), u2 (xI (cloneX X 1 (shp tb0 X 1).2)) d 0 a0, xJ (cloneX X 1 (shp tb0 X 1).2), u2 (xR (cloneX X 1 (shp tb0 X 1).2)) d 1 (some (xN X)), xN (cloneX X 1 (shp tb0 X 1).2)) d ci)))))))))) : w_X1_init tb0 [vR (some d), vI a0] X K KX := (lfp_in h : r_X1_init tb0 K KX 0 [some (vR (some d)), some (vI a0)] [] X 0 0)
set_option maxRecDepth 20000 in
theorem i_X6_init {d : Nat} {a0 : Int32} {X : AX} {K : Option AV → AX → Prop} {KX : String → AX → Prop} (h : w_X1_init tb0 [vR (some d), vI a0] X (fun v2 X1 => rV v2 (K none X1)) (fun _ _ => False)) : w_X6_init tb0 [vR (some d), vI a0] X K KX := (lfp_in h : r_X6_init tb0 K KX 0 [some (vR (some d)), some (vI a0)] [] X 0 0)
set_option maxRecDepth 20000 in
theorem i_X2_init {d : Nat} {a0 : Int32} {X : AX} {K : Option AV → AX → Prop} {KX : String → AX → Prop} (h : w_X1_init tb0 [vR (some d), vI a0] X (fun v2 X1 => rV v2 (K none X1)) (fun _ _ => False)) : w_X2_init tb0 [vR (some d), vI a0] X K KX := (lfp_in h : r_X2_init tb0 K KX 0 [some (vR (some d)), some (vI a0)] [] X 0 0)
set_option maxRecDepth 20000 in
theorem i_X3_init {d : Nat} {a0 : Int32} {X : AX} {K : Option AV → AX → Prop} {KX : String → AX → Prop} (h : w_X2_init tb0 [vR (some d), vI a0] X (fun v2 X1 => rV v2 (K none X1)) (fun _ _ => False)) : w_X3_init tb0 [vR (some d), vI a0] X K KX := (lfp_in h : r_X3_init tb0 K KX 0 [some (vR (some d)), some (vI a0)] [] X 0 0)
set_option maxRecDepth 20000 in
theorem i_X0_init {d : Nat} {a0 : Int32} {X : AX} {K : Option AV → AX → Prop} {KX : String → AX → Prop} (h : w_X1_init tb0 [vR (some d), vI a0] X (fun v2 X1 => rV v2 (K none X1)) (fun _ _ => False)) : w_X0_init tb0 [vR (some d), vI a0] X K KX := (lfp_in h : r_X0_init tb0 K KX 0 [some (vR (some d)), some (vI a0)] [] X 0 0)
set_option maxRecDepth 20000 in
theorem i_X11_newTariff {a0 : Int32} {a1 : Int32} {X : AX} {K : Option AV → AX → Prop} {KX : String → AX → Prop} (h : (a0.toInt < 1 ∨ 4 < a0.toInt → r_X11_newTariff tb0 K KX 68 [some (vI a0), some (vI a1)] [] X 0 0) ∧ ((a0.toInt = 1 → r_X11_newTariff tb0 K KX 32 [some (vI a0), some (vI a1)] [] X 0 0) ∧ ((a0.toInt = 2 → r_X11_newTariff tb0 K KX 41 [some (vI a0), some (vI a1)] [] X 0 0) ∧ ((a0.toInt = 3 → r_X11_newTariff tb0 K KX 50 [some (vI a0), some (vI a1)] [] X 0 0) ∧ ((a0.toInt = 4 → r_X11_newTariff tb0 K KX 59 [some (vI a0), some (vI a1)] [] X 0 0) ∧ (True)))))) : w_X11_newTariff tb0 [vI a0, vI a1] X K KX := (lfp_in h : r_X11_newTariff tb0 K KX 0 [some (vI a0), some (vI a1)] [] X 0 0)
set_option maxRecDepth 20000 in
theorem e_X11_newTariff_59 {l0 : Int32} {l1 : Int32} {X : AX} {K : Option AV → AX → Prop} {KX : String → AX → Prop} (h : gd (tb0 (xN X) = none) (w_X0_init tb0 [vR (some (xN X)), vI l1] (alloc X (10, 0)) (fun v2 X1 => rV v2 (K (some (vR (some (xN X)))) X1)) (fun _ _ => False))) : r_X11_newTariff tb0 K KX 59 [some (vI l0), some (vI l1)] [] X 0 0 := lfp_in h
set_option maxRecDepth 20000 in
theorem e_X11_newTariff_50 {l0 : Int32} {l1 : Int32} {X : AX} {K : Option AV → AX → Prop} {KX : String → AX → Prop} (h : gd (tb0 (xN X) = none) (w_X3_init tb0 [vR (some (xN X)), vI l1] (alloc X (13, 0)) (fun v2 X1 => rV v2 (K (some (vR (some (xN X)))) X1)) (fun _ _ => False))) : r_X11_newTariff tb0 K KX 50 [some (vI l0), some (vI l1)] [] X 0 0 := lfp_in h
set_option maxRecDepth 20000 in
theorem e_X11_newTariff_41 {l0 : Int32} {l1 : Int32} {X : AX} {K : Option AV → AX → Prop} {KX : String → AX → Prop} (h : gd (tb0 (xN X) = none) (w_X2_init tb0 [vR (some (xN X)), vI l1] (alloc X (12, 0)) (fun v2 X1 => rV v2 (K (some (vR (some (xN X)))) X1)) (fun _ _ => False))) : r_X11_newTariff tb0 K KX 41 [some (vI l0), some (vI l1)] [] X 0 0 := lfp_in h
set_option maxRecDepth 20000 in
theorem e_X11_newTariff_32 {l0 : Int32} {l1 : Int32} {X : AX} {K : Option AV → AX → Prop} {KX : String → AX → Prop} (h : gd (tb0 (xN X) = none) (w_X6_init tb0 [vR (some (xN X)), vI l1] (alloc X (16, 0)) (fun v2 X1 => rV v2 (K (some (vR (some (xN X)))) X1)) (fun _ _ => False))) : r_X11_newTariff tb0 K KX 32 [some (vI l0), some (vI l1)] [] X 0 0 := lfp_in h
set_option maxRecDepth 20000 in
theorem e_X11_newTariff_68 {l0 : Int32} {l1 : Int32} {X : AX} {K : Option AV → AX → Prop} {KX : String → AX → Prop} (h : gd (tb0 (xN X) = none) (w_X1_init tb0 [vR (some (xN X)), vI l1] (alloc X (11, 0)) (fun v2 X1 => rV v2 (K (some (vR (some (xN X)))) X1)) (fun _ _ => False))) : r_X11_newTariff tb0 K KX 68 [some (vI l0), some (vI l1)] [] X 0 0 := lfp_in h
/-- a tariff is made at d -/
def NewD (c : Nat) (a : Int32) (X X' : AX) : Prop := xN X' = xN X + 2 ∧ xS X' (xN X) = (c, 1) ∧ xS X' (xN X + 1) = (1, 15) ∧ xI X' (xN X) 0 = a ∧ xI X' (xN X + 1) = xI X 1 ∧ ∀ i, i ≠ xN X → i ≠ xN X + 1 → xS X' i = xS X i ∧ xI X' i = xI X i ∧ xJ X' i = xJ X i ∧ xR X' i = xR X i
section NewT
variable {X : AX} {K : Option AV → AX → Prop} {KX : String → AX → Prop} {a : Int32}
theorem s_init1 {ci : Nat} (hN : 92 ≤ xN X) (h1 : xS X 1 = (1, 15)) (hci : ci = 0 ∨ ci = 1 ∨ ci = 2 ∨ ci = 3 ∨ ci = 6) (hK : ∀ X', NewD (ci + 10) a X X' → K none X') : w_X1_init tb0 [vR (some (xN X)), vI a] (alloc X (ci + 10, 0)) K KX := by
  have hd1 : xN X ≠ 1 := by omega
  have s1 : shp tb0 (alloc X (ci + 10, 0)) 1 = (1, 15) := by
    show u1 (xS X) (xN X) (ci + 10, 0) 1 = (1, 15)
    rw [u1_ne _ _ (by omega)]; exact h1
  have sd : ∀ (I : Nat → Nat → Int32) (J : Nat → Nat → Int64) (R : Nat → Nat → Option Nat) (nn : Nat), shp tb0 (u1 (u1 (xS X) (xN X) (ci + 10, 0)) (xN X + 1) (1, 15), I, J, R, nn) (xN X) = (ci + 10, 0) := fun I J R nn => by
    rw [shp_hi hN]
    show u1 (u1 (xS X) (xN X) (ci + 10, 0)) (xN X + 1) (1, 15) (xN X) = _
    rw [u1_ne _ _ (by omega), u1_at]
  have se : shp tb0 (cloneX (alloc X (ci + 10, 0)) 1 15) (xN X + 1) = (1, 15) := by
    rw [shp_hi (by omega)]
    show u1 (u1 (xS X) (xN X) (ci + 10, 0)) (xN X + 1) (1, 15) (xN X + 1) = _
    rw [u1_at]
  have hC : isC 1 (ci + 10) = true := by rcases hci with e | e | e | e | e <;> subst e <;> decide
  refine i_X1_init ?_
  rw [s1]
  refine gd_in (show 0 < 1 ∧ (1 : Nat) = 1 from ⟨by decide, rfl⟩) (gd_in (tb0_hi (by show 92 ≤ xN X + 1; omega)) (gd_in (by decide) (gd_in ⟨by show 4 ≤ xN X + 1; omega, by show (shp tb0 (cloneX (alloc X (ci + 10, 0)) 1 15) (xN X + 1)).1 = 1; rw [se]⟩ (gd_in ?_ (gd_in ?_ (gd_in ?_ (gd_in (tb0_hi hN) ⟨ci, ?_, ?_, ?_⟩)))))))
  · show isC 1 (shp tb0 (u1 (u1 (xS X) (xN X) (ci + 10, 0)) (xN X + 1) (1, 15), _, _, _, _) (xN X)).1 = true
    rw [sd]; exact hC
  · right
    show (shp tb0 (u1 (u1 (xS X) (xN X) (ci + 10, 0)) (xN X + 1) (1, 15), _, _, _, _) (xN X)).2 = 0
    rw [sd]
  · show isC 1 (shp tb0 (u1 (u1 (xS X) (xN X) (ci + 10, 0)) (xN X + 1) (1, 15), _, _, _, _) (xN X)).1 = true
    rw [sd]; exact hC
  · exact sd _ _ _ _
  · have hr : ∀ (S : Nat → Nat × Nat) (I : Nat → Nat → Int32) (J : Nat → Nat → Int64) (R : Nat → Nat → Option Nat) (nn : Nat), xR (S, I, J, u2 R (xN X) 1 (some (xN X + 1)), nn) (xN X) 1 = some (xN X + 1) := fun S I J R nn => by
      show u2 R (xN X) 1 (some (xN X + 1)) (xN X) 1 = _
      rw [u2_at, if_pos rfl]
    rcases hci with e | e | e | e | e <;> subst e <;> exact ⟨hr _ _ _ _ _, trivial⟩
  · refine hK _ ⟨rfl, ?_, ?_, ?_, ?_, fun i q1 q2 => ⟨?_, ?_, ?_, ?_⟩⟩
    · show u1 (u1 (u1 (xS X) (xN X) (ci + 10, 0)) (xN X + 1) (1, 15)) (xN X) (ci + 10, 1) (xN X) = _
      rw [u1_at]
    · show u1 (u1 (u1 (xS X) (xN X) (ci + 10, 0)) (xN X + 1) (1, 15)) (xN X) (ci + 10, 1) (xN X + 1) = _
      rw [u1_ne _ _ (by omega), u1_at]
    · show u2 (u1 (u1 (xI X) (xN X) (fun _ => 0)) (xN X + 1) _) (xN X) 0 a (xN X) 0 = _
      rw [u2_at, if_pos rfl]
    · show u2 (u1 (u1 (xI X) (xN X) (fun _ => 0)) (xN X + 1) (u1 (xI X) (xN X) (fun _ => 0) 1)) (xN X) 0 a (xN X + 1) = _
      rw [u2_ne _ _ _ (by omega), u1_at, u1_ne _ _ (by omega)]
    · show u1 (u1 (u1 (xS X) (xN X) (ci + 10, 0)) (xN X + 1) (1, 15)) (xN X) (ci + 10, 1) i = _
      rw [u1_ne _ _ q1, u1_ne _ _ q2, u1_ne _ _ q1]
    · show u2 (u1 (u1 (xI X) (xN X) (fun _ => 0)) (xN X + 1) _) (xN X) 0 a i = _
      rw [u2_ne _ _ _ q1, u1_ne _ _ q2, u1_ne _ _ q1]
    · show u1 (u1 (xJ X) (xN X) (fun _ => 0)) (xN X + 1) (fun _ => 0) i = _
      rw [u1_ne _ _ q2, u1_ne _ _ q1]
    · show u2 (u1 (u1 (xR X) (xN X) (fun _ => none)) (xN X + 1) (fun _ => none)) (xN X) 1 (some (xN X + 1)) i = _
      rw [u2_ne _ _ _ q1, u1_ne _ _ q2, u1_ne _ _ q1]
theorem s_newTariff {q : Nat} (hq : q < 5) (hN : 92 ≤ xN X) (h1 : xS X 1 = (1, 15)) (hK : ∀ X', NewD (kcl q) a X X' → K (some (vR (some (xN X)))) X') : w_X11_newTariff tb0 [vI (nI q), vI a] X K KX := by
  have hq5 : q = 0 ∨ q = 1 ∨ q = 2 ∨ q = 3 ∨ q = 4 := by omega
  have ht := tb0_hi hN
  rcases hq5 with rfl | rfl | rfl | rfl | rfl
  · exact i_X11_newTariff ⟨fun _ => e_X11_newTariff_68 (gd_in ht (s_init1 (ci := 1) hN h1 (by simp) (fun X' h => rV_in (hK X' h)))), fun c => absurd c (by decide), fun c => absurd c (by decide), fun c => absurd c (by decide), fun c => absurd c (by decide), trivial⟩
  · exact i_X11_newTariff ⟨fun c => absurd c (by decide), fun _ => e_X11_newTariff_32 (gd_in ht (i_X6_init (s_init1 (ci := 6) hN h1 (by simp) (fun X' h => rV_in (rV_in (hK X' h)))))), fun c => absurd c (by decide), fun c => absurd c (by decide), fun c => absurd c (by decide), trivial⟩
  · exact i_X11_newTariff ⟨fun c => absurd c (by decide), fun c => absurd c (by decide), fun _ => e_X11_newTariff_41 (gd_in ht (i_X2_init (s_init1 (ci := 2) hN h1 (by simp) (fun X' h => rV_in (rV_in (hK X' h)))))), fun c => absurd c (by decide), fun c => absurd c (by decide), trivial⟩
  · exact i_X11_newTariff ⟨fun c => absurd c (by decide), fun c => absurd c (by decide), fun c => absurd c (by decide), fun _ => e_X11_newTariff_50 (gd_in ht (i_X3_init (i_X2_init (s_init1 (ci := 3) hN h1 (by simp) (fun X' h => rV_in (rV_in (rV_in (hK X' h)))))))), fun c => absurd c (by decide), trivial⟩
  · exact i_X11_newTariff ⟨fun c => absurd c (by decide), fun c => absurd c (by decide), fun c => absurd c (by decide), fun c => absurd c (by decide), fun _ => e_X11_newTariff_59 (gd_in ht (i_X0_init (s_init1 (ci := 0) hN h1 (by simp) (fun X' h => rV_in (rV_in (hK X' h)))))), trivial⟩
end NewT
