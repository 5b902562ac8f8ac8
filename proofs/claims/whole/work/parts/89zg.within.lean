/-! within -/
section Ops
variable {L : Nat} {xs : Nat → Int32} {t n s h l : Nat} {X : AX} {K : Option AV → AX → Prop} {KX : String → AX → Prop}
theorem rel_ext {Y Z : AX} (HZ : Rel L xs t n s h l Z) (hN : xN Z ≤ xN Y) (hE : ∀ i, i < xN Z → xS Y i = xS Z i ∧ xI Y i = xI Z i ∧ xJ Y i = xJ Z i ∧ xR Y i = xR Z i) : Rel L xs t n s h l Y := by
  obtain ⟨hS, hW, hR, hT, hL, hE', hK, hH, hC, hG⟩ := HZ
  have h92 := hS.2.2.2.2.2
  have lw' : lw Y = lw Z := lw_eq (fun i hi => (hE i (by omega)).2)
  refine ⟨?_, lw_W lw' hW, lw_R lw' hR, ?_, lw_L lw' hL, lw_E lw' hE', lw_K lw' hK, lw_H lw' hH, ?_, lw_G lw' hG⟩
  · obtain ⟨s1, s2, s3, s4, s5, s6⟩ := hS
    unfold rlS
    rw [(hE 0 (by omega)).1, (hE 1 (by omega)).1, (hE 2 (by omega)).1, (hE 3 (by omega)).1, (hE 0 (by omega)).2.1, (hE 1 (by omega)).2.1, (hE 2 (by omega)).2.1, (hE 3 (by omega)).2.1]
    exact ⟨s1, s2, s3, s4, s5, Nat.le_trans h92 hN⟩
  · obtain ⟨t1, t2, t3, t4⟩ := hT
    refine ⟨by rw [(hE 4 (by omega)).2.1]; exact t1, by rw [(hE 42 (by omega)).2.1]; exact t2, t3, fun k hk => ?_⟩
    obtain ⟨d, d1, d2, d3, d4, d5, d6, d7⟩ := t4 k hk
    refine ⟨d, by rw [(hE 8 (by omega)).2.2.2]; exact d1, d2, Nat.lt_of_lt_of_le d3 hN, by rw [(hE 45 (by omega)).2.1, (hE d (by omega)).1]; exact d4, by rw [(hE (d + 1) d3).1]; exact d5, by rw [(hE d (by omega)).2.1]; exact d6, fun j hj => by rw [(hE (d + 1) d3).2.1, (hE 46 (by omega)).2.1]; exact d7 j hj⟩
  · have hn : nEnd h Y = nEnd h Z := by unfold nEnd; rw [(hE 14 (by omega)).2.1]
    obtain ⟨rid, len, c1, c2, c3, c4, c5, c6, c7, c8, c9⟩ := hC
    refine ⟨rid, len, by rw [(hE 4 (by omega)).2.2.2]; exact c1, c2, Nat.lt_of_lt_of_le c3 hN, ?_, c5, c6, by rw [hn]; exact c7, ?_, ?_⟩
    · unfold shp at c4 ⊢
      rw [(hE rid c3).1]; exact c4
    · rw [hn, (hE rid c3).2.1, (hE 51 (by omega)).2.1, (hE 52 (by omega)).2.1, (hE 53 (by omega)).2.1, (hE 54 (by omega)).2.1]; exact c8
    · rw [hn, (hE 55 (by omega)).2.1]; exact c9
theorem rel_within (H : Rel L xs t n s h l X) {X1 Y : AX} {v : Int64} (hF : FrN X X1) (hB : FrB (bw X1 v) Y) : Rel L xs (t + 1) n s h l Y ∧ xI Y 42 0 = 0 ∧ xJ Y 91 0 = v := by
  have h92 := H.1.2.2.2.2.2
  obtain ⟨b1, b2, b3, b4, b5, b6⟩ := hB
  have HZ := rel_part (g := xI X 19) (e := xI Y 42 60) (w5 := xI Y 42 59) (w1 := xJ Y 87) (w2 := xJ Y 88) (w3 := xJ Y 89) (w4 := xJ Y 90) (v := v) H
  rw [u1_self] at HZ
  refine ⟨rel_ext HZ (by show xN X ≤ xN Y; rw [b3]; exact hF.1) (fun i hi => ?_), ?_, ?_⟩
  · have hi' : i < xN X := hi
    obtain ⟨f1, f2, f3, f4⟩ := hF.2 i hi'
    refine ⟨by rw [b1]; exact f1, ?_, ?_, by rw [b2]; exact f4⟩
    · by_cases e : i = 42
      · subst e
        funext j
        show xI Y 42 j = u2 (u2 (u2 (xI X) 42 0 0) 42 59 (xI Y 42 59)) 42 60 (xI Y 42 60) 42 j
        rw [u2_at]
        by_cases e60 : j = 60
        · rw [if_pos e60, e60]
        · rw [if_neg e60, u2_at]
          by_cases e59 : j = 59
          · rw [if_pos e59, e59]
          · rw [if_neg e59, b5 j e59 e60, u2_at]
            show u2 (xI X1) 42 0 0 42 j = _
            rw [u2_at, f2]
      · rw [b4 i e]
        show u2 (xI X1) 42 0 0 i = u2 (u2 (u2 (xI X) 42 0 0) 42 59 (xI Y 42 59)) 42 60 (xI Y 42 60) i
        rw [u2_ne _ _ _ e, u2_ne _ _ _ e, u2_ne _ _ _ e, u2_ne _ _ _ e, f2]
    · show xJ Y i = u1 (u1 (u1 (u1 (u2 (xJ X) 91 0 v) 87 (xJ Y 87)) 88 (xJ Y 88)) 89 (xJ Y 89)) 90 (xJ Y 90) i
      by_cases e90 : i = 90
      · rw [e90, u1_at]
      · rw [u1_ne _ _ e90]
        by_cases e89 : i = 89
        · rw [e89, u1_at]
        · rw [u1_ne _ _ e89]
          by_cases e88 : i = 88
          · rw [e88, u1_at]
          · rw [u1_ne _ _ e88]
            by_cases e87 : i = 87
            · rw [e87, u1_at]
            · rw [u1_ne _ _ e87, b6 i (by omega)]
              show u2 (xJ X1) 91 0 v i = _
              by_cases e91 : i = 91
              · subst e91
                funext j
                rw [u2_at, u2_at, f3]
              · rw [u2_ne _ _ _ e91, u2_ne _ _ _ e91, f3]
  · rw [b5 0 (by decide) (by decide)]; rfl
  · rw [b6 91 (by decide)]; rfl
theorem mFrac_rep {m c : Nat} {T B : Int} {Y : AX} (h : mFrac m c T B X) (h72 : xI Y 72 c = xI X 72 c) (h73 : xI Y 73 c = xI X 73 c) (h85 : xJ Y 85 = xJ X 85) (h86 : xJ Y 86 = xJ X 86) : ∃ p, p ≤ 80 ∧ xI Y 73 c = nI p ∧ goodP (cOv c Y) (cUn c Y) p ∧ fN' (cOv c Y) (cUn c Y) p * B = ((xI Y 72 c).toInt * B + T) * fD (cUn c Y) p ∧ bnd (xI Y 72 c) 0 80 := by
  obtain ⟨-, -, p, p3, p4, p5, p6, p7⟩ := h
  have e5 : cOv c Y = cOv c X := by unfold cOv; rw [h85]
  have e6 : cUn c Y = cUn c X := by unfold cUn; rw [h86]
  rw [e5, e6, h72, h73]
  exact ⟨p, p3, p4, p5, p6, p7⟩
theorem s_isBeyondX {c d p1 p2 : Nat} {T1 B1 T2 B2 : Int} {a b : Int32} (hc : c < 5) (hd : d < 5) (hp1 : p1 ≤ 80) (hp2 : p2 ≤ 80) (h1 : xI X 73 c = nI p1) (h2 : xI X 73 d = nI p2) (g1 : goodP (cOv c X) (cUn c X) p1) (g2 : goodP (cOv d X) (cUn d X) p2) (n1 : fN' (cOv c X) (cUn c X) p1 * B1 = ((xI X 72 c).toInt * B1 + T1) * fD (cUn c X) p1) (n2 : fN' (cOv d X) (cUn d X) p2 * B2 = ((xI X 72 d).toInt * B2 + T2) * fD (cUn d X) p2) (hB1 : 0 < B1) (hB2 : 0 < B2) (hb : 1 ≤ b.toInt ∧ b.toInt ≤ 1000000) (ha : 0 ≤ a.toInt ∧ a.toInt ≤ 1000000) (s1 : 0 ≤ (xI X 67 c).toInt ∧ (xI X 67 c).toInt ≤ 2000000) (s2 : 0 ≤ (xI X 67 d).toInt ∧ (xI X 67 d).toInt ≤ 2000000) (m1 : bnd (xI X 72 c) 0 80) (m2 : bnd (xI X 72 d) 0 80)
    (hK : ∀ X' (y : Int32), FrB X X' → ((y = 1 ∧ (a.toInt + b.toInt) * (B1 * B2) < b.toInt * ((T1 + (xI X 67 c).toInt * B1) * B2) - b.toInt * ((T2 + (xI X 67 d).toInt * B2) * B1)) ∨ (y = 0 ∧ ¬ (a.toInt + b.toInt) * (B1 * B2) < b.toInt * ((T1 + (xI X 67 c).toInt * B1) * B2) - b.toInt * ((T2 + (xI X 67 d).toInt * B2) * B1))) → K (some (vI y)) X') : w_X12_isBeyond tb0 [vR (some 42), vI (nI c), vI (nI d), vI a, vI b] X K KX := by
  obtain ⟨S, I, J, R, nn⟩ := X
  exact s_isBeyond hc hd hp1 hp2 h1 h2 g1 g2 n1 n2 hB1 hB2 hb ha s1 s2 m1 m2 hK
set_option maxHeartbeats 4000000 in
theorem op_within {a0 a1 : Int32} (ht : t < 600) (H : Rel L xs t n s h l X) (hK : ∀ c X1, SamS X X1 → (∀ K2 KX2, (∀ b X4, FinB L xs t c b X4 → K2 (some (vI b)) X4) → w_X12_within tb0 [vR (some 42), vI a0, vI a1] X1 K2 KX2) → K (some (vI c)) X1) : w_L_within tb0 [vR (some 4), vI a0, vI a1, vR (some 91)] X K KX := by
  obtain ⟨hS, hW, hR, hT, hL, hE, hKk, hH, hC, hG⟩ := id H
  have hht := hH.2.2.1
  have hhx : (xI X 4 9).toInt = h := by rw [hH.1, nI_toInt (by omega)]
  have hhy : (xI X 42 7).toInt = h := by rw [hH.2.1, nI_toInt (by omega)]
  have hd17 : xI X 42 17 = xI X 4 16 := hG.2.2.2.1
  have hd1 := congrArg Int32.toInt hd17
  have hd2 := b_toInt hG.2.2.2.2.1
  have e1 : (1 : Int32).toInt = 1 := by decide
  have e0 : (0 : Int32).toInt = 0 := by decide
  have eM : (1000000 : Int32).toInt = 1000000 := by decide
  by_cases hin : 0 < h ∧ (xI X 4 16).toInt = 1 ∧ 0 ≤ a0.toInt ∧ a0.toInt ≤ 1000000 ∧ 1 ≤ a1.toInt ∧ a1.toInt ≤ 1000000
  · obtain ⟨h0, h16, ha0, ha1, hb0, hb1⟩ := hin
    have h92 := hS.2.2.2.2.2
    obtain ⟨w1, -, -, -, ⟨T, B, wF⟩, -⟩ := rlG_h hH hG h0
    obtain ⟨⟨u1', u2'⟩, T', B', vF⟩ := hG.2.2.2.2.2 (Int32.toInt_inj.mp (h16.trans e1.symm))
    obtain ⟨-, -, -, -, -, a6, -, -, -, a10, -, -, -, -, -, -, -, -, -, -, -, a22, a23⟩ := w1
    unfold bnd at a6 u2'
    have hTB : 0 ≤ T ∧ T < B := by
      obtain ⟨_, _, _, _, _, _, _, _, _, z1, z2, _⟩ := wF.1
      exact ⟨z1, z2⟩
    have hTB' : 0 ≤ T' ∧ T' < B' := by
      obtain ⟨_, _, _, _, _, _, _, _, _, z1, z2, _⟩ := vF.1
      exact ⟨z1, z2⟩
    have n9 : ¬ xI X 4 9 ≤ 0 := fun w => by
      have := Int32.le_iff_toInt_le.mp w
      omega
    have n7 : ¬ xI X 42 7 ≤ 0 := fun w => by
      have := Int32.le_iff_toInt_le.mp w
      omega
    have n16 : ¬ xI X 4 16 = 0 := fun w => by rw [w] at h16; exact absurd h16 (by decide)
    have n17 : ¬ xI X 42 17 = 0 := fun w => n16 (hd17.symm.trans w)
    have st1 : 0 ≤ (xI X 15 7).toInt ∧ (xI X 15 7).toInt ≤ 2000000 := by omega
    refine i_L_within (i_X11_within ⟨fun w => absurd w n9, fun _ => ⟨fun w => absurd w n16, fun _ => e_X11_within_19 (s_demandState1 (rV_in (s_isFrom (fun _ _ => rI_in ⟨fun w => absurd w (by decide), fun _ => s_isFrom (fun _ _ => rI_in ⟨fun w => absurd w (by decide), fun _ => e_X11_within_47 (s_demand1 (rV_in (s_isNear (S := xS X) (F := xI X) (J := xJ X) (R := xR X) (nn := xN X) h92 wF.1 vF.1 wF.2.1 vF.2.1 st1 u2' ⟨ha0, ha1⟩ ⟨hb0, hb1⟩ (fun X1 y hF hy => rI_in ⟨?_, ?_⟩))))⟩) (fun w => absurd ⟨by omega, by omega⟩ w)⟩) (fun w => absurd ⟨by omega, by omega⟩ w))))⟩⟩)
    · rcases hy with ⟨w, -⟩ | ⟨w, -⟩
      · exact Or.inr w
      · exact Or.inl w
    · have hF' : FrN X X1 := hF
      have rI' : ∀ i, i < 92 → xI X1 i = xI X i := fun i hi => (hF'.2 i (by omega)).2.1
      have rJ' : ∀ i, i < 92 → xJ X1 i = xJ X i := fun i hi => (hF'.2 i (by omega)).2.2.1
      have fin : ∀ v : Int64, v = y.toInt64 → ∀ K2 KX2, (∀ b X4, FinB L xs t 0 b X4 → K2 (some (vI b)) X4) → w_X12_within tb0 [vR (some 42), vI a0, vI a1] (xS X1, xI X1, u2 (xJ X1) 91 0 v, xR X1, xN X1) K2 KX2 := by
        intro v hv K2 KX2 hK2
        have q67 : ∀ c, xI (bw X1 v) 67 c = xI X 67 c := fun c => by
          show u2 (xI X1) 42 0 0 67 c = _
          rw [u2_ne _ _ _ (by decide), rI' 67 (by decide)]
        have q72 : ∀ c, xI (bw X1 v) 72 c = xI X 72 c := fun c => by
          show u2 (xI X1) 42 0 0 72 c = _
          rw [u2_ne _ _ _ (by decide), rI' 72 (by decide)]
        have q73 : ∀ c, xI (bw X1 v) 73 c = xI X 73 c := fun c => by
          show u2 (xI X1) 42 0 0 73 c = _
          rw [u2_ne _ _ _ (by decide), rI' 73 (by decide)]
        have q85 : xJ (bw X1 v) 85 = xJ X 85 := by
          show u2 (xJ X1) 91 0 v 85 = _
          rw [u2_ne _ _ _ (by decide), rJ' 85 (by decide)]
        have q86 : xJ (bw X1 v) 86 = xJ X 86 := by
          show u2 (xJ X1) 91 0 v 86 = _
          rw [u2_ne _ _ _ (by decide), rJ' 86 (by decide)]
        have z0 : nI 0 = (0 : Int32) := by decide
        have z4 : nI 4 = (4 : Int32) := by decide
        have key : ∀ Y c d, FrB (bw X1 v) Y → ((c = 0 ∧ d = 4) ∨ (c = 4 ∧ d = 0)) → ∀ {K : Option AV → AX → Prop} {KX : String → AX → Prop}, (∀ X' (z : Int32), FrB (bw X1 v) X' → ((z = 1 ∧ (c = 0 → (a0.toInt + a1.toInt) * (B * B') < a1.toInt * ((T + (xI X 15 7).toInt * B) * B') - a1.toInt * ((T' + (xI X 37 7).toInt * B') * B)) ∧ (c = 4 → (a0.toInt + a1.toInt) * (B * B') < a1.toInt * ((T' + (xI X 37 7).toInt * B') * B) - a1.toInt * ((T + (xI X 15 7).toInt * B) * B'))) ∨ (z = 0 ∧ (c = 0 → ¬ (a0.toInt + a1.toInt) * (B * B') < a1.toInt * ((T + (xI X 15 7).toInt * B) * B') - a1.toInt * ((T' + (xI X 37 7).toInt * B') * B)) ∧ (c = 4 → ¬ (a0.toInt + a1.toInt) * (B * B') < a1.toInt * ((T' + (xI X 37 7).toInt * B') * B) - a1.toInt * ((T + (xI X 15 7).toInt * B) * B')))) → K (some (vI z)) X') → w_X12_isBeyond tb0 [vR (some 42), vI (nI c), vI (nI d), vI a0, vI a1] Y K KX := by
          intro Y c d hY hcd K KX hk
          obtain ⟨y1, y2, y3, y4, y5, y6⟩ := id hY
          have r67 : ∀ c, xI Y 67 c = xI X 67 c := fun c => by rw [y4 67 (by decide)]; exact q67 c
          have r72 : ∀ c, xI Y 72 c = xI X 72 c := fun c => by rw [y4 72 (by decide)]; exact q72 c
          have r73 : ∀ c, xI Y 73 c = xI X 73 c := fun c => by rw [y4 73 (by decide)]; exact q73 c
          obtain ⟨p1, p11, p12, p13, p14, p15⟩ := mFrac_rep (Y := Y) wF (r72 0) (r73 0) ((y6 85 (by decide)).trans q85) ((y6 86 (by decide)).trans q86)
          obtain ⟨p2, p21, p22, p23, p24, p25⟩ := mFrac_rep (Y := Y) vF (r72 4) (r73 4) ((y6 85 (by decide)).trans q85) ((y6 86 (by decide)).trans q86)
          have t0 : xI Y 67 0 = xI X 15 7 := (r67 0).trans a10
          have t4 : xI Y 67 4 = xI X 37 7 := (r67 4).trans u1'
          rcases hcd with ⟨rfl, rfl⟩ | ⟨rfl, rfl⟩
          · refine s_isBeyondX (c := 0) (d := 4) (by decide) (by decide) p11 p21 p12 p22 p13 p23 p14 p24 (by omega) (by omega) ⟨hb0, hb1⟩ ⟨ha0, ha1⟩ (by rw [t0]; exact st1) (by rw [t4]; exact u2') p15 p25 (fun X' z hX hz => hk X' z (hY.trans hX) ?_)
            rw [t0, t4] at hz
            rcases hz with ⟨z1, z2⟩ | ⟨z1, z2⟩
            · exact Or.inl ⟨z1, fun _ => z2, fun w => absurd w (by decide)⟩
            · exact Or.inr ⟨z1, fun _ => z2, fun w => absurd w (by decide)⟩
          · refine s_isBeyondX (c := 4) (d := 0) (by decide) (by decide) p21 p11 p22 p12 p23 p13 p24 p14 (by omega) (by omega) ⟨hb0, hb1⟩ ⟨ha0, ha1⟩ (by rw [t4]; exact u2') (by rw [t0]; exact st1) p25 p15 (fun X' z hX hz => hk X' z (hY.trans hX) ?_)
            rw [t0, t4, Int.mul_comm B' B] at hz
            rcases hz with ⟨z1, z2⟩ | ⟨z1, z2⟩
            · exact Or.inl ⟨z1, fun w => absurd w (by decide), fun _ => z2⟩
            · exact Or.inr ⟨z1, fun w => absurd w (by decide), fun _ => z2⟩
        have done : ∀ Y (z : Int32), FrB (bw X1 v) Y → z = y → K2 (some (vI z)) Y := fun Y z hY hz => by
          obtain ⟨R1, R2, R3⟩ := rel_within H hF' hY
          refine hK2 _ _ ⟨⟨⟨n, s, h, l, R1⟩, R2, fun _ => ?_⟩, ?_⟩
          · rw [R3, hv, hz]
          · rw [hz]
            rcases hy with ⟨w, -⟩ | ⟨w, -⟩
            · exact Or.inr w
            · exact Or.inl w
        refine i_X12_within ⟨fun w => absurd ?_ n7, fun _ => ⟨fun w => absurd ?_ n17, fun _ => e_X12_within_25 (s_right1 (rI_in ⟨fun w => absurd w (by decide), fun _ => ⟨fun w => ?_, fun _ => ⟨fun w => ?_, fun _ => ⟨fun w => ?_, fun _ => ⟨fun w => ?_, fun _ => e_X12_within_59 (s_right1 (rI_in ⟨fun _ => e_X12_within_68 ?_, fun w => absurd w (by decide)⟩))⟩⟩⟩⟩⟩))⟩⟩
        · have w' : xI X1 42 7 ≤ 0 := w
          rw [rI' 42 (by decide)] at w'; exact w'
        · have w' : xI X1 42 17 = 0 := w
          rw [rI' 42 (by decide)] at w'; exact w'
        · have := Int32.lt_iff_toInt_lt.mp w
          omega
        · have := Int32.lt_iff_toInt_lt.mp w
          omega
        · have := Int32.lt_iff_toInt_lt.mp w
          omega
        · have := Int32.lt_iff_toInt_lt.mp w
          omega
        · have fr0 : FrB (bw X1 v) (bw X1 v) := ⟨rfl, rfl, rfl, fun _ _ => rfl, fun _ _ _ => rfl, fun _ _ => rfl⟩
          rw [← z0, ← z4]
          refine key (bw X1 v) 0 4 fr0 (Or.inl ⟨rfl, rfl⟩) (fun Y1 z1 hY1 hz1 => rI_in ⟨fun w => e_X12_within_94 (e_X12_within_95 ⟨Or.inl rfl, done Y1 0 hY1 ?_⟩), fun w => key Y1 4 0 hY1 (Or.inr ⟨rfl, rfl⟩) (fun Y2 z2 hY2 hz2 => rI_in ⟨fun w2 => e_X12_within_94 (e_X12_within_95 ⟨Or.inl rfl, done Y2 0 hY2 ?_⟩), fun w2 => e_X12_within_95 ⟨Or.inr rfl, done Y2 1 hY2 ?_⟩⟩)⟩)
          · rcases hz1 with ⟨-, x, -⟩ | ⟨x, -⟩
            · have x' := x rfl
              rcases hy with ⟨-, g1, -⟩ | ⟨g, -⟩
              · omega
              · exact g.symm
            · rw [z0] at w; exact absurd x w
          · rcases hz2 with ⟨-, -, x⟩ | ⟨x, -⟩
            · have x' := x rfl
              rcases hy with ⟨-, -, g1⟩ | ⟨g, -⟩
              · omega
              · exact g.symm
            · rw [z0] at w2; exact absurd x w2
          · rcases hz1 with ⟨x, -⟩ | ⟨-, x1, -⟩
            · rw [x, z0] at w; exact absurd w (by decide)
            · rcases hz2 with ⟨x, -⟩ | ⟨-, -, x2⟩
              · rw [x, z0] at w2; exact absurd w2 (by decide)
              · have y1 := x1 rfl
                have y2 := x2 rfl
                rcases hy with ⟨g, -⟩ | ⟨-, g | g⟩
                · exact g.symm
                · exact absurd g y1
                · exact absurd g y2
      have sam : ∀ v, SamS X (xS X1, xI X1, u2 (xJ X1) 91 0 v, xR X1, xN X1) := fun v => SamS.mk (hF'.2 0 (by omega)).1 (rI' 0 (by decide))
      refine rI_in ⟨fun w => e_L_within_15 (e_L_within_16 ⟨by unfold vp_in; decide, e_L_within_28 (hK 0 _ (sam 0) (fin 0 ?_))⟩), fun w => e_L_within_16 ⟨by unfold vp_in; decide, e_L_within_28 (hK 0 _ (sam 1) (fin 1 ?_))⟩⟩
      · rw [w]; decide
      · rcases hy with ⟨g, -⟩ | ⟨g, -⟩
        · rw [g]; decide
        · exact absurd g w
  · clear e1 e0 eM
    simp only [Int32.lt_iff_toInt_lt, Int32.le_iff_toInt_le, ← Int32.toInt_inj, u2_ap, reduceIte, Nat.reduceEqDiff, xI, xJ, xR, xS, xN, li_0, li_1, li_2, li_3, li_4, li_5, li_6, li_7, li_8, li_9, li_10, li_11, li_12, li_13, li_14, li_15, li_16, li_20, li_34, li_40, li_50, li_59, li_60, li_64, li_99, li_100, li_200, li_500, li_1439, li_1440, li_3840, li_4000, li_10000, li_60000, li_1000000, li_m1, li_min, ck_0, ck_1, ck_2, ck_3, ck_4] at hhx hhy hin hd1 hd2
    repeat' (first
      | with_reducible refine i_L_within ?_
      | with_reducible refine e_L_within_15 ?_
      | with_reducible refine e_L_within_16 ?_
      | with_reducible refine e_L_within_26 ?_
      | with_reducible refine e_L_within_22 ?_
      | with_reducible refine e_L_within_28 ?_
      | with_reducible refine i_X11_within ?_
      | with_reducible refine e_X11_within_18 ?_
      | with_reducible refine e_X11_within_19 ?_
      | with_reducible refine e_X11_within_46 ?_
      | with_reducible refine e_X11_within_47 ?_
      | with_reducible refine i_X12_within ?_
      | with_reducible refine e_X12_within_24 ?_
      | with_reducible refine e_X12_within_25 ?_
      | with_reducible refine e_X12_within_66 ?_
      | with_reducible refine e_X12_within_58 ?_
      | with_reducible refine e_X12_within_59 ?_
      | with_reducible refine e_X12_within_94 ?_
      | with_reducible refine e_X12_within_95 ?_
      | with_reducible refine s_right1 ?_
      | with_reducible refine s_right0 (by decide) ?_
      | with_reducible refine s_isFrom ?_ ?_
      | with_reducible refine s_demand1 ?_
      | with_reducible refine s_demand0 ?_
      | with_reducible refine s_demandSuch1 ?_
      | with_reducible refine s_demandSuch0 ?_
      | with_reducible refine s_demandState1 ?_
      | with_reducible refine s_demandState0 ?_
      | with_reducible refine s_demandPlace ?_ ?_
      | with_reducible refine s_refuse ?_ ?_
      | (with_reducible refine s_hired ?hb ?_ ?_; case hb => assumption)
      | with_reducible refine s_right1 ?_
      | with_reducible refine s_right0 (by decide) ?_
      | with_reducible refine s_thrown ?_
      | with_reducible refine rI_in ?_
      | with_reducible refine rV_in ?_
      | with_reducible refine rL_in ?_
      | with_reducible refine rR_in ?_
      | with_reducible refine ite_t rfl ?_
      | with_reducible refine ite_f (by decide) ?_
      | with_reducible refine gd_in (by decide) ?_
      | with_reducible refine or0_and ?_
      | with_reducible refine or1_and ?_
      | with_reducible refine br_t (by decide) ?_
      | with_reducible refine br_f (by decide) ?_
      | with_reducible refine br_t2 (by decide) ?_
      | with_reducible refine br_f2 (by decide) ?_
      | (with_reducible refine vin_and ?hv ?_; case hv => first | omega | (simp only [Int32.lt_iff_toInt_lt, Int32.le_iff_toInt_le, ← Int32.toInt_inj, u2_ap, reduceIte, Nat.reduceEqDiff, xI, xJ, xR, xS, xN, li_0, li_1, li_2, li_3, li_4, li_5, li_6, li_7, li_8, li_9, li_10, li_11, li_12, li_13, li_14, li_15, li_16, li_20, li_34, li_40, li_50, li_59, li_60, li_64, li_99, li_100, li_200, li_500, li_1439, li_1440, li_3840, li_4000, li_10000, li_60000, li_1000000, li_m1, li_min, ck_0, ck_1, ck_2, ck_3, ck_4] at * <;> omega))
      | (with_reducible refine ne_and ?hv ?_; case hv => decide)
      | (refine hK _ _ (SamS.mk rfl rfl) (fun K2 KX2 hK2 => ?_); try dsimp only [xI, xJ, xR, xS, xN])
      | (with_reducible refine hK2 _ _ ?_; try dsimp only [xI, xJ, xR, xS, xN])
      | exact fin_thr H (by assumption) _ (by decide)
      | exact finL_thr H (by assumption) _ (by decide)
      | exact finB_thr H (by assumption) (by decide)
      | ((with_reducible refine br_s (fun c => ?_) (fun c => ?_)) <;> (try simp only [Int32.lt_iff_toInt_lt, Int32.le_iff_toInt_le, ← Int32.toInt_inj, u2_ap, reduceIte, Nat.reduceEqDiff, xI, xJ, xR, xS, xN, li_0, li_1, li_2, li_3, li_4, li_5, li_6, li_7, li_8, li_9, li_10, li_11, li_12, li_13, li_14, li_15, li_16, li_20, li_34, li_40, li_50, li_59, li_60, li_64, li_99, li_100, li_200, li_500, li_1439, li_1440, li_3840, li_4000, li_10000, li_60000, li_1000000, li_m1, li_min, ck_0, ck_1, ck_2, ck_3, ck_4] at c) <;> (try (exfalso; omega)))
      | ((with_reducible refine br_s2 (fun c => ?_) (fun c => ?_)) <;> (try simp only [Int32.lt_iff_toInt_lt, Int32.le_iff_toInt_le, ← Int32.toInt_inj, u2_ap, reduceIte, Nat.reduceEqDiff, xI, xJ, xR, xS, xN, li_0, li_1, li_2, li_3, li_4, li_5, li_6, li_7, li_8, li_9, li_10, li_11, li_12, li_13, li_14, li_15, li_16, li_20, li_34, li_40, li_50, li_59, li_60, li_64, li_99, li_100, li_200, li_500, li_1439, li_1440, li_3840, li_4000, li_10000, li_60000, li_1000000, li_m1, li_min, ck_0, ck_1, ck_2, ck_3, ck_4] at c) <;> (try (exfalso; omega)))
      | ((with_reducible intro c); (try simp only [Int32.lt_iff_toInt_lt, Int32.le_iff_toInt_le, ← Int32.toInt_inj, u2_ap, reduceIte, Nat.reduceEqDiff, xI, xJ, xR, xS, xN, li_0, li_1, li_2, li_3, li_4, li_5, li_6, li_7, li_8, li_9, li_10, li_11, li_12, li_13, li_14, li_15, li_16, li_20, li_34, li_40, li_50, li_59, li_60, li_64, li_99, li_100, li_200, li_500, li_1439, li_1440, li_3840, li_4000, li_10000, li_60000, li_1000000, li_m1, li_min, ck_0, ck_1, ck_2, ck_3, ck_4] at c) <;> (try (exfalso; omega))))
end Ops
