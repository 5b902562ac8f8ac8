/-! hire: the class's side, where it is right -/
/-- the hire is opened -/
def oX (X : AX) (d : Nat) (z y : Int32) : AX := (xS X, u2 (u2 (u2 (u2 (u2 (u2 (u2 (u2 (xI X) 14 5 (xI X 4 9)) 14 6 1) 14 7 z) 14 8 (-1)) 14 9 (xI X 11 2)) 14 10 y) 14 11 0) 14 12 0, xJ X, u2 (xR X) 14 4 (some d), xN X)
section Ops
variable {L : Nat} {xs : Nat → Int32} {t n s h l : Nat} {X : AX} {K : Option AV → AX → Prop} {KX : String → AX → Prop}
theorem c_hire {a0 a1 a2 a3 : Int32} (hT : rlT n X) (hL : rlL n s X) (hE : rlE s X) (h6 : (xI X 14 6).toInt = 0) (h0 : 0 ≤ a0.toInt) (h12 : a0.toInt < 12) (hbeg : 0 ≤ a1.toInt ∧ a1.toInt ≤ 99 ∧ 0 ≤ a2.toInt ∧ a2.toInt ≤ 1439 ∧ 0 ≤ a3.toInt ∧ a3.toInt ≤ 59) (h9 : (xI X 9 a0.toNatClampNeg).toInt = 1) (hh : (xI X 4 9).toInt < 4000)
    (hK : ∀ d q y X', rlT1 X (xI X 10 a0.toNatClampNeg).toNatClampNeg d → q < 5 → xI X 45 (xI X 10 a0.toNatClampNeg).toNatClampNeg = nI q → bnd (xI X 10 a0.toNatClampNeg) 0 ((n : Int) - 1) → allW (xI X 12) s y → Std 15 d q (xI X 10 a0.toNatClampNeg).toNatClampNeg (a2 * 60 + a3) (xI X 4 1) (oX X d a1 y) X' → K (some (vI (xI X' 14 5))) (xS X', u2 (xI X') 4 9 (xI X' 4 9 + 1), xJ X', xR X', xN X')) : w_X11_hire tb0 [vR (some 4), vI a0, vI a1, vI a2, vI a3] X K KX := by
  have hn12 := hT.2.2.1
  refine i_X11_hire (s_refuse (fun _ => rV_in (s_demandPlace (fun _ _ => rV_in (s_demandBeginning (fun _ => rV_in (s_tariffHeld hT hL h0 h12 (fun d e b hd => rR_in ⟨fun c => e_X11_hire_36 ?_, fun c => absurd (Int32.lt_iff_toInt_lt.mpr (by rw [li_4000]; exact hh)) c⟩) (fun z => absurd (h9.symm.trans z) (by decide)) (fun z => absurd (h9.symm.trans z) (by decide)))) (fun c => absurd hbeg c))) (fun c => absurd ⟨h0, by rw [li_12]; exact h12⟩ c))) (fun c => absurd h6 c))
  obtain ⟨t1, t2, t3, ⟨q, hq, t4, t5⟩, t6, t7, t8⟩ := id hd
  have hb := b
  unfold bnd at hb
  have hc := clp hb.1
  have tail : ∀ y, allW (xI X 12) s y → w_X5_start tb0 [vR (some 15), vR (some d), vI (a2 * 60 + a3), vI (xI (oX X d a1 y) 4 1)] (oX X d a1 y) (fun v4 X3 => rV v4 (K (some (vI (xI X3 14 5))) (xS X3, u2 (xI X3) 4 9 ((xI X3 4 9) + 1), xJ X3, xR X3, xN X3))) KX := fun y hy => by
    refine s_start_15 (q := q) (k := (xI X 10 a0.toNatClampNeg).toNatClampNeg) t2 t5 t6 hq (by omega) ?_ (fun X' h => rV_in (hK d q y X' hd hq t4 b hy h))
    show u2 (u2 (u2 (u2 (u2 (u2 (u2 (u2 (xI X) 14 5 (xI X 4 9)) 14 6 1) 14 7 a1) 14 8 (-1)) 14 9 (xI X 11 2)) 14 10 y) 14 11 0) 14 12 0 d 0 = _
    rw [u2_ne _ _ _ (by omega), u2_ne _ _ _ (by omega), u2_ne _ _ _ (by omega), u2_ne _ _ _ (by omega), u2_ne _ _ _ (by omega), u2_ne _ _ _ (by omega), u2_ne _ _ _ (by omega), u2_ne _ _ _ (by omega)]
    exact t7
  exact i_X4_open ⟨Or.inr rfl, s_areWhole (q := s) hE.1 hE.2.2.1 (fun z => rI_in ⟨Or.inr rfl, Or.inl rfl, Or.inl rfl, rV_in (tail 1 (Or.inl ⟨rfl, z⟩))⟩) (fun z => rI_in ⟨Or.inl rfl, Or.inl rfl, Or.inl rfl, rV_in (tail 0 (Or.inr ⟨rfl, z⟩))⟩)⟩
end Ops
