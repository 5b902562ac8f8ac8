section More3
variable {S : Nat → Nat × Nat} {I : Nat → Nat → Int32} {J : Nat → Nat → Int64} {R : Nat → Nat → Option Nat} {nn : Nat} {K : Option AV → AX → Prop} {KX : String → AX → Prop} {c p : Nat} {a d : Int64}
set_option maxHeartbeats 2000000 in
theorem s_more (hc : c < 5) (hp : I 73 c = nI p) (hp8 : p ≤ 80) (hroom : (∀ k, k < p → ¬ J 86 (80 * c + k) = d) → p < 80) (hg : goodP (cOv c (S, I, J, R, nn)) (cUn c (S, I, J, R, nn)) p) (ha : 0 ≤ a.toInt ∧ a.toInt ≤ 10000000) (hd : 1 ≤ d.toInt ∧ d.toInt ≤ 200000000) (hM : bnd (I 72 c) 0 80)
    (hK : ∀ X' (v : Int32) (w : Int) (p' q : Nat), FrM (S, I, J, R, nn) X' → p' ≤ 80 → xI X' 73 = stf (I 73) c (nI p') → xI X' 72 = stf (I 72) c (nI q) → (∀ j, j < 80 * c ∨ 80 * c + 80 ≤ j → xJ X' 85 j = J 85 j ∧ xJ X' 86 j = J 86 j) → goodP (cOv c X') (cUn c X') p' → fN' (cOv c X') (cUn c X') p' / fD (cUn c X') p' = q →
      fN' (cOv c X') (cUn c X') p' * (fD (cUn c (S, I, J, R, nn)) p * d.toInt) = (fN' (cOv c (S, I, J, R, nn)) (cUn c (S, I, J, R, nn)) p * d.toInt + (a.toInt - w * d.toInt) * fD (cUn c (S, I, J, R, nn)) p) * fD (cUn c X') p' → v.toInt = w + q - (I 72 c).toInt →
      ((p' = p ∧ ∀ k, k < p → cUn c X' k = cUn c (S, I, J, R, nn) k) ∨ (p' = p + 1 ∧ (∀ k, k < p → cUn c X' k = cUn c (S, I, J, R, nn) k ∧ ¬ cUn c X' k = d) ∧ cUn c X' p = d)) → K (some (vI v)) X') :
    w_X12_more tb0 [vR (some 42), vI (nI c), vL a, vL d] (S, I, J, R, nn) K KX := by
  refine i_X12_more (more_loop hc hp hp8 (fun k hk h1 h2 => e_X12_more_38 ?_) p 0 (by omega) (fun j hj => absurd hj (Nat.not_lt_zero _)))
  rw [nI_clamp (by omega), ix80, nI_clamp (by omega)]
  refine ⟨vp_in_nI (by omega) (by decide), fun z => ?_, fun z => ?_⟩
  · have z' : ¬ nI k = I 73 c := z
    have hkp : k < p := by
      rcases Nat.lt_or_ge k p with q | q
      · exact q
      · have : k = p := by omega
        subst this
        exact absurd hp.symm z'
    refine more_86 hc hp hp8 hkp hg (h2 hkp) ha hM (fun X' v w q hF e73 e72 e86 e85 hg' hq hN hv => hK X' v w p q hF hp8 ?_ e72 (fun j hj => ⟨e85 j hj, by rw [e86]⟩) hg' hq ?_ hv (Or.inl ⟨rfl, fun k hk => ?_⟩))
    · rw [e73, ← hp]
      funext j; unfold stf
      by_cases e : j = c
      · rw [if_pos e, e]
      · rw [if_neg e]
    · have eu : cUn c X' = cUn c (S, I, J, R, nn) := by unfold cUn; rw [e86]
      rw [eu] at hN ⊢
      have hN' : fN' (cOv c X') (cUn c (S, I, J, R, nn)) p * d.toInt = fN' (cOv c (S, I, J, R, nn)) (cUn c (S, I, J, R, nn)) p * d.toInt + (a.toInt - w * d.toInt) * fD (cUn c (S, I, J, R, nn)) p := hN
      rw [← hN']
      rw [Int.mul_comm (fD (cUn c (S, I, J, R, nn)) p) d.toInt, ← Int.mul_assoc]
    · show xJ X' 86 _ = J 86 _
      rw [e86]
  · have z' : nI k = I 73 c := z
    have hkp : k = p := (nI_eq (by omega) (by omega)).mp (z'.trans hp)
    subst hkp
    have hlt := hroom h1
    refine ⟨vp_in_nI (by omega) (by decide), vp_in_nI (by omega) (by decide), vp_in_nI (by omega) (by decide), vp_in_nI (by omega) (by decide), ?_⟩
    show r_X12_more tb0 K KX 86 _ [] (S, u2 I 73 c (I 73 c + 1), u2 (u2 J 85 (80 * c + k) 0) 86 (80 * c + k) d, R, nn) 0 0
    rw [hp, nI_1]
    have f0 : ∀ j, j < k → (u2 (u2 J 85 (80 * c + k) 0) 86 (80 * c + k) d 85 (80 * c + j) = J 85 (80 * c + j)) ∧ (u2 (u2 J 85 (80 * c + k) 0) 86 (80 * c + k) d 86 (80 * c + j) = J 86 (80 * c + j)) := fun j hj => by
      refine ⟨?_, ?_⟩
      · show u2 J 85 (80 * c + k) 0 85 (80 * c + j) = _
        rw [u2_at, if_neg (by omega)]
      · rw [u2_at, if_neg (by omega)]
        rfl
    have fk1 : u2 (u2 J 85 (80 * c + k) 0) 86 (80 * c + k) d 85 (80 * c + k) = 0 := by
      show u2 J 85 (80 * c + k) 0 85 (80 * c + k) = 0
      rw [u2_at, if_pos rfl]
    have fk2 : u2 (u2 J 85 (80 * c + k) 0) 86 (80 * c + k) d 86 (80 * c + k) = d := by rw [u2_at, if_pos rfl]
    have hg2 : goodP (fun j => u2 (u2 J 85 (80 * c + k) 0) 86 (80 * c + k) d 85 (80 * c + j)) (fun j => u2 (u2 J 85 (80 * c + k) 0) 86 (80 * c + k) d 86 (80 * c + j)) (k + 1) := fun j hj => by
      show 0 ≤ (u2 (u2 J 85 (80 * c + k) 0) 86 (80 * c + k) d 85 (80 * c + j)).toInt ∧ (u2 (u2 J 85 (80 * c + k) 0) 86 (80 * c + k) d 85 (80 * c + j)).toInt < (u2 (u2 J 85 (80 * c + k) 0) 86 (80 * c + k) d 86 (80 * c + j)).toInt ∧ (u2 (u2 J 85 (80 * c + k) 0) 86 (80 * c + k) d 86 (80 * c + j)).toInt ≤ 200000000
      by_cases e : j = k
      · subst e
        rw [fk1, fk2]
        have : (0 : Int64).toInt = 0 := rfl
        omega
      · rw [(f0 j (by omega)).1, (f0 j (by omega)).2]
        exact hg j (by omega)
    obtain ⟨eN, eD⟩ := fN_cong (f := fun j => u2 (u2 J 85 (80 * c + k) 0) 86 (80 * c + k) d 85 (80 * c + j)) (g := fun j => u2 (u2 J 85 (80 * c + k) 0) 86 (80 * c + k) d 86 (80 * c + j)) (f' := cOv c (S, I, J, R, nn)) (g' := cUn c (S, I, J, R, nn)) (n := k) f0
    have eN1 : fN' (fun j => u2 (u2 J 85 (80 * c + k) 0) 86 (80 * c + k) d 85 (80 * c + j)) (fun j => u2 (u2 J 85 (80 * c + k) 0) 86 (80 * c + k) d 86 (80 * c + j)) (k + 1) = fN' (cOv c (S, I, J, R, nn)) (cUn c (S, I, J, R, nn)) k * d.toInt := by
      rw [fN', eN]
      show _ * (u2 (u2 J 85 (80 * c + k) 0) 86 (80 * c + k) d 86 (80 * c + k)).toInt + _ * (u2 (u2 J 85 (80 * c + k) 0) 86 (80 * c + k) d 85 (80 * c + k)).toInt = _
      rw [fk1, fk2]
      have : (0 : Int64).toInt = 0 := rfl
      rw [this]; omega
    have eD1 : fD (fun j => u2 (u2 J 85 (80 * c + k) 0) 86 (80 * c + k) d 86 (80 * c + j)) (k + 1) = fD (cUn c (S, I, J, R, nn)) k * d.toInt := by
      rw [fD, eD]
      show _ * (u2 (u2 J 85 (80 * c + k) 0) 86 (80 * c + k) d 86 (80 * c + k)).toInt = _
      rw [fk2]
    refine more_86 (p := k + 1) (k := k) hc (by rw [u2_at, if_pos rfl]) (by omega) (by omega) hg2 fk2 ha hM (fun X' v w q hF e73 e72 e86 e85 hg' hq hN hv => hK X' v w (k + 1) q ?_ (by omega) ?_ e72 (fun j hj => ⟨?_, ?_⟩) hg' hq ?_ hv (Or.inr ⟨rfl, fun j hj => ⟨?_, ?_⟩, ?_⟩))
    · obtain ⟨q1, q2, q3, q4, q5, q6⟩ := hF
      refine ⟨q1, q2, q3, fun i h1 h2 h3 => (q4 i h1 h2 h3).trans (u2_ne _ _ _ h3), q5, fun i hi => (q6 i hi).trans ?_⟩
      show u2 (u2 J 85 (80 * c + k) 0) 86 (80 * c + k) d i = J i
      rw [u2_ne _ _ _ (by omega), u2_ne _ _ _ (by omega)]
    · rw [e73]
      funext j
      rw [u2_at]; rfl
    · rw [e85 j hj]
      show u2 J 85 (80 * c + k) 0 85 j = J 85 j
      rw [u2_at, if_neg (by omega)]
    · rw [e86]
      show u2 (u2 J 85 (80 * c + k) 0) 86 (80 * c + k) d 86 j = J 86 j
      rw [u2_at, if_neg (by omega)]
      rfl
    · rw [eN1, eD1] at hN
      have eD2 : fD (cUn c X') (k + 1) = fD (cUn c (S, I, J, R, nn)) k * d.toInt := by
        rw [← eD1]
        unfold cUn
        rw [e86]
      rw [eD2, ← Int.mul_assoc, Int.mul_comm (fN' (cOv c X') (cUn c X') (k + 1)) (fD (cUn c (S, I, J, R, nn)) k), Int.mul_assoc, hN]
      grind
    · show xJ X' 86 (80 * c + j) = J 86 (80 * c + j)
      rw [e86]; exact (f0 j hj).2
    · intro z
      have z' : xJ X' 86 (80 * c + j) = d := z
      rw [e86, (f0 j hj).2] at z'
      exact h1 j hj z'
    · show xJ X' 86 (80 * c + k) = d
      rw [e86]; exact fk2
end More3
