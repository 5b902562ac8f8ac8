/-! again -/
section Ops
variable {L : Nat} {xs : Nat → Int32} {t n s h l : Nat} {X : AX} {K : Option AV → AX → Prop} {KX : String → AX → Prop}
theorem bg_60 {x : Int32} (h0 : 0 ≤ x.toInt) (h1 : x.toInt ≤ 86399) : 60 * (x / 60) + (x - x / 60 * 60) = x := by
  have e60 : (60 : Int32).toInt = 60 := by decide
  have e1 := n_div (x := x) (y := 60) h0 (by omega)
  have e2 := n_rem (x := x) (y := 60) h0 (by omega)
  rw [e60] at e1 e2
  have e3 : (60 * (x / 60)).toInt = 60 * (x.toInt / 60) := by rw [n_mul] <;> rw [e60, e1] <;> omega
  refine Int32.toInt_inj.mp ?_
  rw [n_add] <;> rw [e3, e2] <;> omega
theorem rel_again (H : Rel L xs t n s h l X) {v : Int64} {X1 Y : AX} (hF : CmF 29 X X1) (hA : AmF 3 (bw X1 v) Y) : Rel L xs (t + 1) n s h l Y ∧ xI Y 42 0 = 0 ∧ xJ Y 91 0 = v := by
  obtain ⟨g4a, g4b, g4c⟩ := H.2.2.2.2.2.2.2.2.2.2.2.2
  obtain ⟨a1, a2, a3, a4, a5⟩ := id hF
  obtain ⟨b1, b2, b3, b4, b5, b6, b7, b8, b9, b10, b11, b12⟩ := id hA
  have e : ∀ i, (i < 29 ∨ 33 < i) → i ≠ 42 → xI (bw X1 v) i = xI X i := fun i p q => by
    show u2 (xI X1) 42 0 0 i = _
    rw [u2_ne _ _ _ q]; exact a4 i p
  have g : ∀ i, i ≠ 29 → i ≠ 91 → xJ (bw X1 v) i = xJ X i := fun i p q => by
    show u2 (xJ X1) 91 0 v i = _
    rw [u2_ne _ _ _ q]; exact a5 i p
  have y4 : xI Y 4 = xI X 4 := (b4 4 (by decide) (by decide)).trans (e 4 (by decide) (by decide))
  have y17 : xI Y 42 17 = xI X 42 17 := by
    rw [b5 17 (by decide) (by decide)]
    show xI X1 42 17 = _
    rw [a4 42 (by decide)]
  refine ⟨rel_am (m := 29) (c := 3) H (by decide) (by decide) (fra_of (by decide) hF hA) ⟨by rw [y17, y4]; exact g4a, by rw [y4]; exact g4b, fun w => ?_⟩ (Or.inl rfl), ?_, ?_⟩
  · rw [y4] at w
    obtain ⟨u, T, B, v'⟩ := g4c w
    have r : ∀ i, 37 ≤ i → i ≤ 40 → xI Y i = xI X i := fun i p q => (b4 i (by omega) (by omega)).trans (e i (by omega) (by omega))
    have rc : ∀ i, 59 ≤ i → i ≤ 80 → xI Y i 4 = xI X i 4 := fun i p q => (b6 i 4 p q (by decide)).trans (by rw [e i (by omega) (by omega)])
    refine ⟨by rw [rc 67 (by decide) (by decide), r 37 (by decide) (by decide)]; exact u, T, B, mFrac_fr (X := X) (congrFun (r 38 (by decide) (by decide)) 3) (r 39 (by decide) (by decide)) (r 40 (by decide) (by decide)) (rc 72 (by decide) (by decide)) (rc 73 (by decide) (by decide)) ?_ ?_ v'⟩
    · funext j
      refine ((b12 (80 * 4 + j) (by omega)).1).trans ?_
      rw [g 85 (by decide) (by decide)]; try rfl
    · funext j
      refine ((b12 (80 * 4 + j) (by omega)).2).trans ?_
      rw [g 86 (by decide) (by decide)]; try rfl
  · rw [b5 0 (by decide) (by decide)]; try rfl
  · rw [b10 91 (by decide) (by decide)]; try rfl
set_option maxHeartbeats 2000000 in
theorem op_again (ht : t < 600) (H : Rel L xs t n s h l X) (hK : ∀ c X1, SamS X X1 → (∀ K2 KX2, (∀ b X4, FinL L xs t c b X4 → K2 (some (vL b)) X4) → w_X12_again tb0 [vR (some 42)] X1 K2 KX2) → K (some (vI c)) X1) : w_L_again tb0 [vR (some 4), vR (some 91)] X K KX := by
  obtain ⟨hS, hW, hR, hT, hL, hE, hKk, hH, hC, hG⟩ := id H
  have hb := hH.2.2.2.2.1
  have hr : xI X 42 14 = xI X 14 6 := hH.2.2.2.1
  unfold bl at hb
  have e0 : (0 : Int32).toInt = 0 := by decide
  have z0 : nI 0 = (0 : Int32) := by decide
  have z3 : nI 3 = (3 : Int32) := by decide
  have hht := hH.2.2.1
  have h9 : (xI X 4 9).toInt = h := by rw [hH.1, nI_toInt (by omega)]
  refine i_L_again (i_X11_again (s_refuse (fun h6 => rV_in ⟨fun z => e_X11_again_15 (e_X11_again_16 (s_demandState0 fun n1 hn => ?_)), fun z => e_X11_again_16 (s_demandState1 (rV_in ?_))⟩) (fun h6 n1 hn => ?_)))
  · have hz : h = 0 := by
      have := Int32.le_iff_toInt_le.mp z
      omega
    have r1 : xI X 42 14 = 0 := by
      rw [hr]
      exact Int32.toInt_inj.mp (by omega)
    have r15 : xI X 42 15 = 0 := by
      have := hH.2.2.2.2.2.2.1 h6
      rw [if_neg (by omega)] at this
      exact Int32.toInt_inj.mp (by omega)
    exact ite_t rfl (gd_in (by decide) (e_L_again_11 (hK _ _ (SamS.mk rfl rfl) (fun K2 KX2 hK2 => i_X12_again ⟨fun z => absurd r1 z, fun _ => ⟨fun _ => e_X12_again_24 (e_X12_again_25 (s_right0 (by decide) (rI_in ⟨fun z => absurd rfl z, fun _ => hK2 _ _ (finL_thr H hn _ (by decide))⟩))), fun z => absurd r15 z⟩⟩))))
  · have h0 : 0 < h := by
      rcases Nat.eq_zero_or_pos h with g | g
      · refine absurd (Int32.le_iff_toInt_le.mpr ?_) z
        rw [e0]
        show (xI X 4 9).toInt ≤ 0
        omega
      · exact g
    obtain ⟨f1, f2, f3, f4, -, f6, f7, f8, f9, f10, f11, f12, f13, f14, f15, -, -, f18⟩ := hG.2.1 h6 h0
    obtain ⟨a1, a2, a3, a4, a5, a6, a7, a8, a9, a10, a11, a12, a13, a14, a15, a16, a17, a18, a19, a20, a21⟩ := id f1
    obtain ⟨k1, k2, k3, k4, k5, k6, k7, k8⟩ := hH.2.2.2.2.2.2.2.2.2.2 h0
    have a2' := a2
    have a6' := a6
    have a17' := a17
    have a15' := a15
    have f63 := f2.2.2
    unfold bnd at a2' a6' a17' f63 a15'
    have c4 := clp a6'.1
    have c12 := clp a17'.1
    have c63 := clp f63.1
    have hn12 := hT.2.2.1
    generalize hran : (xI X 15 4).toNatClampNeg = ran at c4
    generalize hHn : (xI X 15 12).toNatClampNeg = H' at c12
    generalize hk0 : (xI X 63 0).toNatClampNeg = k0 at c63 f6
    have e4 : xI X 15 4 = nI ran := by rw [← hran]; exact nI_ofI a6'.1
    have e12 : xI X 15 12 = nI H' := by rw [← hHn]; exact nI_ofI a17'.1
    have e63 : xI X 63 0 = nI k0 := by rw [← hk0]; exact nI_ofI f63.1
    have hEn : EnvG X n H' ran := ⟨hT, hR, hW, f3, e12, by omega, e4, by omega⟩
    obtain ⟨d, hd, q5, h45, hsd⟩ := tar_of hEn (show k0 < n by omega)
    obtain ⟨t1, t2, t3, -, t5, t6, t7⟩ := id hd
    have x14 : xR X 14 4 = some d := f6.trans t1
    have b14 := num_of hT k0 (by omega) 14 (by decide)
    have e14 : (aLst 14).toInt = 0 ∧ (aMst 14).toInt = 10000 := by decide
    unfold bnd at b14
    have heo : 0 ≤ (eOf (kdX X k0) (xI X 46 (15 * k0 + 14))).toInt ∧ (eOf (kdX X k0) (xI X 46 (15 * k0 + 14))).toInt ≤ 10000 := by
      unfold eOf
      by_cases w : kdX X k0 = 4
      · rw [if_pos w]; omega
      · rw [if_neg w]; omega
    have hmn : nI (min 0 ran) = (0 : Int32) := by rw [Nat.zero_min]; exact z0
    have hinv : invG X n H' (mkG (st0 (xI X 46) k0 (kdX X k0)) k0 (eOf (kdX X k0) (xI X 46 (15 * k0 + 14))) 0 (fun j => decide (j = k0))) := by
      refine ⟨Nat.zero_le _, e63.symm, by show k0 < n; omega, heo.1, ?_⟩
      show (eOf (kdX X k0) (xI X 46 (15 * k0 + 14))).toInt ≤ 10000 * (((0 : Nat) : Int) + 1)
      omega
    generalize hA0 : mkG (st0 (xI X 46) k0 (kdX X k0)) k0 (eOf (kdX X k0) (xI X 46 (15 * k0 + 14))) 0 (fun j => decide (j = k0)) = A0 at hinv
    have gh0 : nI (gHn A0) = (0 : Int32) := by rw [← hA0]; exact z0
    have ms0 : mS (gM A0) = nI (min 0 ran) := by rw [hmn, ← hA0]; try rfl
    refine i_X4_repeat_m29 ?_
    rw [x14]
    refine s_start_29 (S := xS X) (F := xI X) (J := xJ X) (R := xR X) (nn := xN X) (q := kdX X k0) (k := k0) t2 hsd t5 q5 (by omega) t6 (fun X0 hStd => rV_in ?_)
    obtain ⟨rs1, rs2, rs3, rs4⟩ := rep_start (X := X) (n := n) (f := xI X 46) (k := k0) (rd := xI X 4 0) (fun j hj => (t7 j hj).1) hStd
    have hc0 : cAG X n A0 X0 := by
      rw [← hA0]
      refine ⟨⟨d, hd, rs1⟩, rs2, rs3.trans z0.symm, fun j _ => ?_⟩
      rcases rs4 j with w | w
      · exact w
      · omega
    have kc := c_out (K := fun v4 X3 => rV v4 (rL (some (vL (xJ X3 29 6))) fun y3 => vp_in 0 1 ∧ (r_L_again tb0 K 13 [some (vR (some 4)), some (vR (some 91)), none] [] (xS X3, xI X3, u2 (xJ X3) 91 (Int32.toNatClampNeg 0) y3, xR X3, xN X3) 2 12))) (KX := fun E X4 => if E = "java/lang/IllegalStateException" then gd (2 < 3 ∧ E ∈ thrNms) (r_L_again tb0 K 11 [some (vR (some 4)), some (vR (some 91)), none] [] X4 2 12) else gd (E ∈ thrNms ∧ "java/lang/IllegalStateException" ∈ thrNms) (False)) hEn (ran + 1) 0 A0 X0 (by omega) (CmF.of_start hStd) hc0 hinv ms0 (fun X1 l5 l6 hF hc hi => e_X4_repeat_111_m29 (i_X5_charge_m29 (rV_in ?_)))
    · rw [gh0, z0] at kc
      exact kc
    · generalize hA : outX X H' ran (ran + 1) 0 A0 = A at hc hi
      obtain ⟨⟨d1, hd1, hc1⟩, c9, c12', c11⟩ := hc
      obtain ⟨d1', hd1', q51, h451, hsd1⟩ := tar_of hEn hi.2.2.1
      have dd : d1' = d1 := Option.some.inj (hd1'.1.symm.trans hd1.1)
      subst dd
      obtain ⟨u1, u2', u3, -, u5, u6, u7⟩ := id hd1
      have rX : ∀ i, (i < 29 ∨ 33 < i) → xI X1 i = xI X i := hF.2.2.2.1
      have x1510 : xI X1 15 10 = xI X 15 10 := by rw [rX 15 (by decide)]
      have hE50 := hEn.2.2.2.2.2.1
      have hgh := hi.1
      have hex : (gE A + xI X 15 10).toInt64 = (gE A).toInt64 + (xI X 15 10).toInt64 := by
        have i4 := hi.2.2.2.1
        have i5 := hi.2.2.2.2
        exact i64_add (by omega) (by omega)
      have hX2 : CmF 29 X (xS X1, u2 (xI X1) 29 9 (xI X1 29 9 + xI X1 15 10), u2 (xJ X1) 29 6 (xJ X1 29 6 + (xI X1 15 10).toInt64), xR X1, xN X1) := ⟨hF.1, hF.2.1, hF.2.2.1, fun i p => by
        show u2 (xI X1) 29 9 _ i = _
        rw [u2_ne _ _ _ (by omega)]; exact rX i p, fun i p => by
        show u2 (xJ X1) 29 6 _ i = _
        rw [u2_ne _ _ _ p]; exact hF.2.2.2.2 i p⟩
      have hmain : ∀ fr : Int64, (fr = (xI X 46 (15 * gK A + 13)).toInt64 + ((gE A).toInt64 + (xI X 15 10).toInt64) ∧ gHn A = 0 ∧ flatP (xI X 46) (gK A) (kdX X (gK A)) (xI X 14 7) (xI X 14 8) ∨ fr = mFr (gM A) + (xI X 15 10).toInt64 ∧ ¬ (gHn A = 0 ∧ flatP (xI X 46) (gK A) (kdX X (gK A)) (xI X 14 7) (xI X 14 8))) → ∀ X3, CmF 29 X X3 → xJ X3 29 6 = fr → (rV none (rL (some (vL (xJ X3 29 6))) fun y3 => vp_in 0 1 ∧ (r_L_again tb0 K 13 [some (vR (some 4)), some (vR (some 91)), none] [] (xS X3, xI X3, u2 (xJ X3) 91 (Int32.toNatClampNeg 0) y3, xR X3, xN X3) 2 12))) := by
        intro fr hfr X3 hF3 h36
        rw [h36]
        refine rV_in (rL_in ⟨by unfold vp_in; decide, e_L_again_13 (hK 0 _ (SamS.mk (congrFun hF3.1 0) (hF3.2.2.2.1 0 (by decide))) (fun K2 KX2 hK2 => ?_))⟩)
        have rW : ∀ i, (i < 29 ∨ 33 < i) → i ≠ 42 → xI (bw X3 fr) i = xI X i := fun i p q => by
          show u2 (xI X3) 42 0 0 i = _
          rw [u2_ne _ _ _ q]; exact hF3.2.2.2.1 i p
        have rW42 : ∀ j, j ≠ 0 → xI (bw X3 fr) 42 j = xI X 42 j := fun j p => by
          show u2 (xI X3) 42 0 0 42 j = _
          rw [u2_at, if_neg p, hF3.2.2.2.1 42 (by decide)]
        have rWJ : ∀ i, i ≠ 29 → i ≠ 91 → xJ (bw X3 fr) i = xJ X i := fun i p q => by
          show u2 (xJ X3) 91 0 fr i = _
          rw [u2_ne _ _ _ q]; exact hF3.2.2.2.2 i p
        have r14 : xI X3 42 14 = 0 := by
          rw [hF3.2.2.2.1 42 (by decide), hr]
          exact Int32.toInt_inj.mp (by omega)
        have r15 : ¬ xI X3 42 15 = 0 := fun w => by
          rw [hF3.2.2.2.1 42 (by decide)] at w
          have := hH.2.2.2.2.2.2.1 h6
          rw [if_pos h0, w] at this
          exact absurd this (by decide)
        have x63 : xI (bw X3 fr) 63 (Int32.toNatClampNeg 2) = nI k0 := by
          show xI (bw X3 fr) 63 2 = _
          rw [rW 63 (by decide) (by decide), f7]; exact e63
        have x62 : xI (bw X3 fr) 62 (Int32.toNatClampNeg 2) = xI X 15 2 := by
          show xI (bw X3 fr) 62 2 = _
          rw [rW 62 (by decide) (by decide), f10]; exact a1
        have x60 : xI (bw X3 fr) 60 (Int32.toNatClampNeg 2) = xI X 14 7 := by
          show xI (bw X3 fr) 60 2 = _
          rw [rW 60 (by decide) (by decide), f8]; exact k3
        refine i_X12_again ⟨fun w => absurd r14 w, fun _ => ⟨fun w => absurd w r15, fun _ => e_X12_again_25 (s_right1 (rI_in ⟨fun _ => e_X12_again_34 ⟨by unfold vp_in; decide, by unfold vp_in; decide, by unfold vp_in; decide, by decide, by unfold vp_in; decide, by decide, ?_⟩, fun w => absurd w (by decide)⟩))⟩⟩
        rw [show xI (xS X3, u2 (xI X3) 42 0 0, u2 (xJ X3) 91 (Int32.toNatClampNeg 0) fr, xR X3, xN X3) 63 (Int32.toNatClampNeg 2) = nI k0 from x63, show xI (xS X3, u2 (xI X3) 42 0 0, u2 (xJ X3) 91 (Int32.toNatClampNeg 0) fr, xR X3, xN X3) 62 (Int32.toNatClampNeg 2) = xI X 15 2 from x62, show xI (xS X3, u2 (xI X3) 42 0 0, u2 (xJ X3) 91 (Int32.toNatClampNeg 0) fr, xR X3, xN X3) 60 (Int32.toNatClampNeg 2) = xI X 14 7 from x60]
        have qb := s_begins2 (S := xS X3) (F := u2 (xI X3) 42 0 0) (J := u2 (xJ X3) 91 0 fr) (R := xR X3) (nn := xN X3) (c := 3) (k := k0) (q := kdX X k0) (zone := xI X 14 7) (mi := xI X 15 2 / 60) (se := xI X 15 2 - xI X 15 2 / 60 * 60) (K := fun v2 X1 => rV v2 (r_X12_again tb0 K2 KX2 73 [some (vR (some 42)), some (vI 0), some (vI 0)] [] X1 0 0)) (KX := KX2) (by decide) (by omega) q5 (by rw [show (u2 (xI X3) 42 0 0) 45 = xI X 45 from rW 45 (by decide) (by decide)]; exact h45) (fun X4 hB => rV_in ?_)
        · rw [z3] at qb
          exact qb
        · rw [bg_60 a2'.1 a2'.2] at hB
          obtain ⟨rb1, rb2, rb3, rb4, rb5, rb6⟩ := rep_begins (n := n) (f := xI X 46) (rd' := xI X 4 0) (te' := xI X 4 1) (fun j _ => by rw [show xI (xS X3, u2 (xI X3) 42 0 0, u2 (xJ X3) 91 0 fr, xR X3, xN X3) 46 = xI X 46 from rW 46 (by decide) (by decide)]) hB ((rW42 1 (by decide)).trans hW.1) ((rW42 2 (by decide)).trans hW.2.2.1)
          have hAm := AmF.of_begins hB
          obtain ⟨b1, b2, b3, b4, b5, b6, b7, b8, b9, b10, b11, b12⟩ := id hAm
          have hM4 : EnvR X H' ran (xI X 14 8) X4 := by
            refine ⟨(b4 45 (by decide) (by decide)).trans (rW 45 (by decide) (by decide)), (b4 46 (by decide) (by decide)).trans (rW 46 (by decide) (by decide)), (b4 43 (by decide) (by decide)).trans (rW 43 (by decide) (by decide)), (b4 44 (by decide) (by decide)).trans (rW 44 (by decide) (by decide)), ?_, ?_, fun i hi => ⟨?_, ?_⟩, ?_, ?_⟩
            · refine (b6 59 2 (by decide) (by decide) (by decide)).trans ((congrFun (rW 59 (by decide) (by decide)) 2).trans ?_)
              rw [f11, a5]; exact e4
            · refine (b6 70 2 (by decide) (by decide) (by decide)).trans ((congrFun (rW 70 (by decide) (by decide)) 2).trans ?_)
              rw [f12, a16]; exact e12
            · refine ((b9 (50 * 2 + i) (by omega)).1).trans ((congrFun (rW 83 (by decide) (by decide)) _).trans ?_)
              exact (f18 i hi).1
            · refine ((b9 (50 * 2 + i) (by omega)).2).trans ((congrFun (rW 84 (by decide) (by decide)) _).trans ?_)
              exact (f18 i hi).2
            · refine (b11 77 2 (by decide) (by decide)).trans ((congrFun (rWJ 77 (by decide) (by decide)) 2).trans ?_)
              exact f13
            · refine (b6 61 2 (by decide) (by decide) (by decide)).trans ((congrFun (rW 61 (by decide) (by decide)) 2).trans ?_)
              rw [f9]; exact k4
          have hm4 : mAG X n (xI X 14 7) A0 X4 := by
            rw [← hA0]
            refine ⟨rb1, rb2, rb3.trans z0.symm, fun j hj w => ?_, fun j hj => ?_, rb6, 0, fun _ => 0, xI X4 78 3, Nat.zero_le _, rb4.trans z0.symm, fun j hj => absurd hj (Nat.not_lt_zero _), rfl⟩
            · rw [rb5 j (by omega)]
              show (if j = k0 ∧ kdX X k0 = 4 then (1 : Int32) else 0) = if decide (j = k0) = true then 1 else 0
              by_cases y : j = k0
              · have k4' : kdX X k0 = 4 := by
                  unfold kdX
                  rw [← y, w]; decide
                rw [if_pos ⟨y, k4'⟩, if_pos (by simp [y])]
              · rw [if_neg (fun p => y p.1), if_neg (by simp [y])]
            · rw [rb5 j hj]
              by_cases y : j = k0 ∧ kdX X k0 = 4
              · rw [if_pos y]; exact Or.inr rfl
              · rw [if_neg y]; exact Or.inl rfl
          have km := m_out (K := K2) (KX := KX2) (Z := bw X3 fr) hEn (ran + 1) 0 A0 X4 (by omega) hAm hM4 hm4 hinv ms0 (fun X5 l5 l6 hA5 hM5 hm5 hi5 => e_X12_again_148 ⟨by unfold vp_in; decide, by unfold vp_in; decide, by unfold vp_in; decide, by unfold vp_in; decide, by unfold vp_in; decide, by unfold vp_in; decide, by unfold vp_in; decide, ?_⟩)
          · rw [gh0, z0] at km
            exact km
          · rw [hA] at hm5 hi5
            obtain ⟨hm, c76, c70, c81, cbl, c60, -⟩ := hm5
            rw [show xI X5 61 (Int32.toNatClampNeg 2) = xI X 14 8 from hM5.2.2.2.2.2.2.2.2]
            have j77 : xJ X5 77 (Int32.toNatClampNeg 2) = (xI X 15 10).toInt64 := hM5.2.2.2.2.2.2.2.1.trans a14
            rw [j77]
            have g70 : gHn A ≤ 50 := by omega
            have qe := s_ends (S := xS X5) (F := xI X5) (J := u2 (u2 (xJ X5) 76 3 (xJ X5 76 3 + (xI X 15 10).toInt64)) 75 3 (xJ X5 75 3 + (xI X 15 10).toInt64)) (R := xR X5) (nn := xN X5) (c := 3) (k := gK A) (q := kdX X (gK A)) (f := xI X 46) (a1 := xI X 14 8) (K := (fun v2 X1 => rV v2 (vp_in 3 5 ∧ (K2 (some (vL (xJ X1 75 (Int32.toNatClampNeg 3)))) X1)))) (KX := KX2) (by decide) (by have := hi.2.2.1; omega) q51 hm.2.2.2.1 (by rw [hM5.1]; exact h451) (fun j _ => by rw [hM5.2.1]) (by rw [c70, nI_toInt (by omega)]; omega) (fun w1 w2 => rV_in ⟨by unfold vp_in; decide, hK2 _ _ ?_⟩) (fun w => rV_in ⟨by unfold vp_in; decide, hK2 _ _ ?_⟩)
            · rw [z3] at qe
              exact qe
            · have gz : gHn A = 0 := by
                rw [c70] at w1
                exact (nI_eq (by omega) (by decide)).mp (w1.trans z0.symm)
              rw [c60] at w2
              have hY : AmF 3 X5 (xS X5, u2 (u2 (u2 (xI X5) 61 3 (xI X 14 8)) 78 3 0) 79 3 1, u2 (u2 (u2 (xJ X5) 76 3 (xJ X5 76 3 + (xI X 15 10).toInt64)) 75 3 (xJ X5 75 3 + (xI X 15 10).toInt64)) 75 3 ((xI X 46 (15 * gK A + 13)).toInt64 + (u2 (u2 (xJ X5) 76 3 (xJ X5 76 3 + (xI X 15 10).toInt64)) 75 3 (xJ X5 75 3 + (xI X 15 10).toInt64)) 76 3), xR X5, xN X5) := by
                refine ⟨rfl, rfl, rfl, fun i p q => ?_, fun j p q => rfl, fun i j p q r => ?_, fun j p => rfl, fun j p => rfl, fun j p => ⟨rfl, rfl⟩, fun i p q => ?_, fun i j p q => ?_, fun j p => ⟨rfl, rfl⟩⟩
                · show u2 (u2 (u2 (xI X5) 61 3 _) 78 3 0) 79 3 1 i = _
                  rw [u2_ne _ _ _ (by omega), u2_ne _ _ _ (by omega), u2_ne _ _ _ (by omega)]
                · show u2 (u2 (u2 (xI X5) 61 3 _) 78 3 0) 79 3 1 i j = _
                  rw [u2_nj r, u2_nj r, u2_nj r]
                · show u2 (u2 (u2 (xJ X5) 76 3 _) 75 3 _) 75 3 _ i = _
                  rw [u2_ne _ _ _ (by omega), u2_ne _ _ _ (by omega), u2_ne _ _ _ (by omega)]
                · show u2 (u2 (u2 (xJ X5) 76 3 _) 75 3 _) 75 3 _ i j = _
                  rw [u2_nj q, u2_nj q, u2_nj q]
              obtain ⟨R1, R2, R3⟩ := rel_again H hF3 (hA5.trans hY)
              refine ⟨⟨n, s, h, l, R1⟩, R2, fun _ => R3.trans ?_⟩
              rcases hfr with ⟨y1, -, -⟩ | ⟨-, y2⟩
              · show fr = (xI X 46 (15 * gK A + 13)).toInt64 + (xJ X5 76 3 + (xI X 15 10).toInt64)
                rw [y1, c76]
              · exact absurd ⟨gz, w2⟩ y2
            · have hY : AmF 3 X5 (xS X5, u2 (u2 (xI X5) 61 3 (xI X 14 8)) 78 3 0, u2 (u2 (xJ X5) 76 3 (xJ X5 76 3 + (xI X 15 10).toInt64)) 75 3 (xJ X5 75 3 + (xI X 15 10).toInt64), xR X5, xN X5) := by
                refine ⟨rfl, rfl, rfl, fun i p q => ?_, fun j p q => rfl, fun i j p q r => ?_, fun j p => rfl, fun j p => rfl, fun j p => ⟨rfl, rfl⟩, fun i p q => ?_, fun i j p q => ?_, fun j p => ⟨rfl, rfl⟩⟩
                · show u2 (u2 (xI X5) 61 3 _) 78 3 0 i = _
                  rw [u2_ne _ _ _ (by omega), u2_ne _ _ _ (by omega)]
                · show u2 (u2 (xI X5) 61 3 _) 78 3 0 i j = _
                  rw [u2_nj r, u2_nj r]
                · show u2 (u2 (xJ X5) 76 3 _) 75 3 _ i = _
                  rw [u2_ne _ _ _ (by omega), u2_ne _ _ _ (by omega)]
                · show u2 (u2 (xJ X5) 76 3 _) 75 3 _ i j = _
                  rw [u2_nj q, u2_nj q]
              obtain ⟨R1, R2, R3⟩ := rel_again H hF3 (hA5.trans hY)
              refine ⟨⟨n, s, h, l, R1⟩, R2, fun _ => R3.trans ?_⟩
              rcases hfr with ⟨-, y2, y3⟩ | ⟨y1, -⟩
              · refine absurd ⟨?_, ?_⟩ w
                · rw [c70, y2]; exact z0
                · rw [c60]; exact y3
              · show fr = xJ X5 75 3 + (xI X 15 10).toInt64
                rw [y1, hm.2.2.2.2.2.2.1]
      have i12' : (u2 (xI X1) 29 9 (xI X1 29 9 + xI X1 15 10)) 29 12 = nI (gHn A) := c12'
      rw [show xI (xS X1, u2 (xI X1) 29 9 (xI X1 29 9 + xI X1 15 10), u2 (xJ X1) 29 6 (xJ X1 29 6 + (xI X1 15 10).toInt64), xR X1, xN X1) 14 7 = xI X 14 7 from congrFun (rX 14 (by decide)) 7, show xI (xS X1, u2 (xI X1) 29 9 (xI X1 29 9 + xI X1 15 10), u2 (xJ X1) 29 6 (xJ X1 29 6 + (xI X1 15 10).toInt64), xR X1, xN X1) 14 8 = xI X 14 8 from congrFun (rX 14 (by decide)) 8]
      refine s_finish_29 (S := xS X1) (F := u2 (xI X1) 29 9 (xI X1 29 9 + xI X1 15 10)) (J := u2 (xJ X1) 29 6 (xJ X1 29 6 + (xI X1 15 10).toInt64)) (R := xR X1) (nn := xN X1) (d := d1') (q := kdX X (gK A)) (k := gK A) (f := xI X 46) u2' (by rw [hF.1]; exact hsd1) (by rw [hF.1]; exact u5) q51 hc1.2.2.2.2.2.2.2.1 (fun j hj => by rw [u2_ne _ _ _ (by omega), rX (d1' + 1) (by omega)]; exact (u7 j hj).1) (fun w1 w2 => rI_in ?_) (fun w => rI_in ?_)
      · have gz : gHn A = 0 := by
          rw [i12'] at w1
          exact (nI_eq (by omega) (by decide)).mp (w1.trans z0.symm)
        refine hmain _ (Or.inl ⟨rfl, gz, w2⟩) _ ⟨hX2.1, hX2.2.1, hX2.2.2.1, hX2.2.2.2.1, fun i p => ?_⟩ ?_
        · show u2 (u2 (xJ X1) 29 6 _) 29 6 _ i = _
          rw [u2_ne _ _ _ p]; exact hX2.2.2.2.2 i p
        · show (xI X 46 (15 * gK A + 13)).toInt64 + (xI X1 29 9 + xI X1 15 10).toInt64 = _
          rw [c9, x1510, hex]
      · refine hmain _ (Or.inr ⟨rfl, fun y => w ⟨?_, y.2⟩⟩) _ hX2 ?_
        · rw [i12', y.1]; exact z0
        · show xJ X1 29 6 + (xI X1 15 10).toInt64 = _
          rw [hc1.2.2.2.2.1, x1510]
  · have r1 : ¬ xI X 42 14 = 0 := fun w => by
      rw [hr] at w
      exact h6 (by rw [w]; exact e0)
    exact ite_t rfl (gd_in (by decide) (e_L_again_11 (hK _ _ (SamS.mk rfl rfl) (fun K2 KX2 hK2 => i_X12_again ⟨fun _ => e_X12_again_24 (e_X12_again_25 (s_right0 (by decide) (rI_in ⟨fun z => absurd rfl z, fun _ => hK2 _ _ (finL_thr H hn _ (by decide))⟩))), fun z => absurd z r1⟩))))
end Ops
