/-! the reference's more -/
/-- what the reference's more leaves as it was -/
def FrM (X X' : AX) : Prop := xS X' = xS X ∧ xR X' = xR X ∧ xN X' = xN X ∧ (∀ i, i ≠ 42 → i ≠ 72 → i ≠ 73 → xI X' i = xI X i) ∧ (∀ k, k ≠ 59 → k ≠ 60 → xI X' 42 k = xI X 42 k) ∧ ∀ i, i < 85 ∨ 90 < i → xJ X' i = xJ X i
theorem goodP_cong {f g f' g' : Nat → Int64} {n : Nat} (h : ∀ k, k < n → f k = f' k ∧ g k = g' k) (hg : goodP f g n) : goodP f' g' n := fun k hk => by
  obtain ⟨a, b⟩ := h k hk
  rw [← a, ← b]; exact hg k hk
section More2
variable {S : Nat → Nat × Nat} {I : Nat → Nat → Int32} {J : Nat → Nat → Int64} {R : Nat → Nat → Option Nat} {nn : Nat} {K : Option AV → AX → Prop} {KX : String → AX → Prop} {c p : Nat} {a d : Int64}
theorem more_loop (hc : c < 5) (hp : I 73 c = nI p) (hp8 : p ≤ 80)
    (hK : ∀ k, k ≤ p → (∀ j, j < k → ¬ J 86 (80 * c + j) = d) → (k < p → J 86 (80 * c + k) = d) → r_X12_more tb0 K KX 38 [some (vR (some 42)), some (vI (nI c)), some (vL a), none, some (vL d), none, some (vI (nI k)), none, none, none] [] (S, I, J, R, nn) 0 0) :
    ∀ r i, i + r = p → (∀ j, j < i → ¬ J 86 (80 * c + j) = d) → r_X12_more tb0 K KX 3 [some (vR (some 42)), some (vI (nI c)), some (vL a), none, some (vL d), none, some (vI (nI i)), none, none, none] [] (S, I, J, R, nn) 0 0
  | 0, i, hi, h => by
    have e : i = p := by omega
    subst e
    refine e_X12_more_3 ⟨vp_in_nI (by omega) (by decide), fun _ => hK i (Nat.le_refl _) h (fun z => absurd z (by omega)), fun z => absurd ?_ z⟩
    rw [nI_clamp (by omega)]
    show I 73 c ≤ nI i
    rw [hp]; exact nI_le (Nat.le_refl _) (by omega)
  | r + 1, i, hi, h => by
    refine e_X12_more_3 ⟨vp_in_nI (by omega) (by decide), ?_⟩
    rw [nI_clamp (by omega), ix80, nI_clamp (by omega)]
    refine ⟨fun z => ?_, fun _ => ⟨vp_in_nI (by omega) (by decide), fun z => hK i (by omega) h (fun _ => (lg_cmp_eq _ _).mp z), fun z => ?_⟩⟩
    · have z' : I 73 c ≤ nI i := z
      rw [hp] at z'; exact absurd z' (nI_ge (by omega) (by omega))
    · rw [nI_1]
      exact more_loop hc hp hp8 hK r (i + 1) (by omega) (lt_s h (fun e => z ((lg_cmp_eq _ _).mpr e)))
set_option maxHeartbeats 2000000 in
theorem more_86 {k : Nat} (hc : c < 5) (hp : I 73 c = nI p) (hp8 : p ≤ 80) (hk : k < p) (hg : goodP (fun k => J 85 (80 * c + k)) (fun k => J 86 (80 * c + k)) p) (hd : J 86 (80 * c + k) = d) (ha : 0 ≤ a.toInt ∧ a.toInt ≤ 10000000) (hM : bnd (I 72 c) 0 80)
    (hK : ∀ X' (v : Int32) (w : Int) (q : Nat), FrM (S, I, J, R, nn) X' → xI X' 73 = I 73 → xI X' 72 = stf (I 72) c (nI q) → xJ X' 86 = J 86 → (∀ j, j < 80 * c ∨ 80 * c + 80 ≤ j → xJ X' 85 j = J 85 j) → goodP (cOv c X') (cUn c X') p → fN' (cOv c X') (cUn c X') p / fD (cUn c X') p = q →
      fN' (cOv c X') (cUn c X') p * d.toInt = fN' (fun k => J 85 (80 * c + k)) (fun k => J 86 (80 * c + k)) p * d.toInt + (a.toInt - w * d.toInt) * fD (fun k => J 86 (80 * c + k)) p → v.toInt = w + q - (I 72 c).toInt → K (some (vI v)) X') :
    r_X12_more tb0 K KX 86 [some (vR (some 42)), some (vI (nI c)), some (vL a), none, some (vL d), none, some (vI (nI k)), none, none, none] [] (S, I, J, R, nn) 0 0 := by
  obtain ⟨g1, g2, g3⟩ := hg k hk
  have hd' : (J 86 (80 * c + k)).toInt = d.toInt := by rw [hd]
  have g1' : 0 ≤ (J 85 (80 * c + k)).toInt := g1
  have g2' : (J 85 (80 * c + k)).toInt < d.toInt := by rw [← hd']; exact g2
  have g3' : d.toInt ≤ 200000000 := by rw [← hd']; exact g3
  have dne : ¬ d = 0 := fun z => by rw [z] at g2'; have : (0 : Int64).toInt = 0 := rfl; omega
  have eall : (J 85 (80 * c + k) + a).toInt = (J 85 (80 * c + k)).toInt + a.toInt := by rw [n_addL] <;> omega
  have erem := n_remL (x := J 85 (80 * c + k) + a) (y := d) (by omega) (by omega)
  have ediv := n_divL (x := J 85 (80 * c + k) + a) (y := d) (by omega) (by omega)
  rw [eall] at erem ediv
  have dm := Int.mul_ediv_add_emod ((J 85 (80 * c + k)).toInt + a.toInt) d.toInt
  have r0 := Int.emod_nonneg ((J 85 (80 * c + k)).toInt + a.toInt) (show d.toInt ≠ 0 by omega)
  have r1 := Int.emod_lt_of_pos ((J 85 (80 * c + k)).toInt + a.toInt) (show 0 < d.toInt by omega)
  have w0 : 0 ≤ ((J 85 (80 * c + k)).toInt + a.toInt) / d.toInt := Int.ediv_nonneg (by omega) (by omega)
  have w1 : ((J 85 (80 * c + k)).toInt + a.toInt) / d.toInt ≤ (J 85 (80 * c + k)).toInt + a.toInt := Int.ediv_le_self _ (by omega)
  refine e_X12_more_86 ?_
  rw [ix80, nI_clamp (by omega), nI_clamp (by omega)]
  refine ⟨vp_in_nI (by omega) (by decide), dne, vp_in_nI (by omega) (by decide), ?_⟩
  show w_X12_collect tb0 [vR (some 42), vI (nI c)] (S, u2 I 42 59 0, u2 J 85 (80 * c + k) ((J 85 (80 * c + k) + a) - (J 85 (80 * c + k) + a) / d * d), R, nn) _ KX
  generalize hrem : (J 85 (80 * c + k) + a) - (J 85 (80 * c + k) + a) / d * d = rem at *
  refine s_collect (I := u2 I 42 59 0) (J := u2 J 85 (80 * c + k) rem) (p := p) (s0 := 0) hc hp hp8 rfl (by omega) (fun g g' _ hgk => rV_in ⟨vp_in_nI (by omega) (by decide), ?_⟩)
  have ef : ∀ j, j < p → g j = stf (fun k => J 85 (80 * c + k)) k rem j ∧ g' j = J 86 (80 * c + j) := fun j hj => by
    obtain ⟨x1, x2⟩ := hgk j hj
    rw [Nat.zero_add] at x1 x2
    refine ⟨x1.trans ?_, x2⟩
    show u2 J 85 (80 * c + k) rem 85 (80 * c + j) = _
    rw [u2_at]
    by_cases e : j = k
    · subst e; rw [if_pos rfl, stf_at]
    · rw [if_neg (by omega), stf_ne _ _ e]
  have hg2 : goodP (stf (fun k => J 85 (80 * c + k)) k rem) (fun k => J 86 (80 * c + k)) p := fun j hj => by
    by_cases e : j = k
    · subst e
      rw [stf_at]
      show 0 ≤ rem.toInt ∧ rem.toInt < (J 86 (80 * c + j)).toInt ∧ _
      rw [hd']
      exact ⟨by omega, by omega, g3'⟩
    · rw [stf_ne _ _ e]; exact hg j hj
  have hg3 : goodP g g' p := goodP_cong (fun j hj => ⟨(ef j hj).1.symm, (ef j hj).2.symm⟩) hg2
  obtain ⟨eN, eD⟩ := fN_cong (f := g) (g := g') (f' := stf (fun k => J 85 (80 * c + k)) k rem) (g' := fun k => J 86 (80 * c + k)) (n := p) ef
  have hmore := fN_more (f := fun k => J 85 (80 * c + k)) (g := fun k => J 86 (80 * c + k)) (f' := stf (fun k => J 85 (80 * c + k)) k rem) (k := k) (p := p) (n := a.toInt) (d := d.toInt) (w := ((J 85 (80 * c + k)).toInt + a.toInt) / d.toInt) hk hd' (by omega) (by
    rw [stf_at, erem]
    rw [Int.mul_comm] at dm
    show _ = (J 85 (80 * c + k)).toInt + a.toInt - _
    omega) (fun j _ e => stf_ne _ _ e)
  refine s_whole (I := u2 (u2 I 42 59 0) 42 59 (nI (0 + p))) (J := u1 (u1 (u2 J 85 (80 * c + k) rem) 87 g) 88 g') (n := p) (a0 := 0) (by omega) (by rw [Nat.zero_add]; rfl) hg3 (fun q e ra rb hq _ => rI_in ⟨vp_in_nI (by omega) (by decide), dne, vp_in_nI (by omega) (by decide), ?_⟩)
  have hq' : fN' g g' p / fD g' p = q := hq
  have hqb : q ≤ 80 := by
    have hD := fD_pos hg3
    have hN := (fN_rng hg3).2.1
    have : fN' g g' p / fD g' p ≤ p := Int.ediv_le_of_le_mul hD hN
    omega
  have hM' := hM
  unfold bnd at hM'
  refine hK _ _ (((J 85 (80 * c + k)).toInt + a.toInt) / d.toInt) q ⟨rfl, rfl, rfl, fun i h1 h2 h3 => ?_, fun k' h1 h2 => ?_, fun i hi => ?_⟩ ?_ ?_ ?_ (fun j hj => ?_) ?_ ?_ ?_ ?_
  · show u2 (u2 (u2 (u2 I 42 59 0) 42 59 (nI (0 + p))) 42 60 e) 72 c (nI q) i = I i
    rw [u2_ne _ _ _ h2, u2_ne _ _ _ h1, u2_ne _ _ _ h1, u2_ne _ _ _ h1]
  · show u2 (u2 (u2 (u2 I 42 59 0) 42 59 (nI (0 + p))) 42 60 e) 72 c (nI q) 42 k' = I 42 k'
    rw [u2_ne _ _ _ (by decide), u2_at, if_neg h2, u2_at, if_neg h1, u2_at, if_neg h1]
  · show u1 (u1 (u1 (u1 (u2 J 85 (80 * c + k) rem) 87 g) 88 g') 89 ra) 90 rb i = J i
    rw [u1_ne _ _ (by omega), u1_ne _ _ (by omega), u1_ne _ _ (by omega), u1_ne _ _ (by omega), u2_ne _ _ _ (by omega)]
  · rfl
  · show u2 (u2 (u2 (u2 I 42 59 0) 42 59 (nI (0 + p))) 42 60 e) 72 c (nI q) 72 = _
    funext j
    rw [u2_at]
    rfl
  · rfl
  · show u2 J 85 (80 * c + k) rem 85 j = J 85 j
    rw [u2_at, if_neg (by omega)]
  · refine goodP_cong (fun j hj => ?_) hg2
    refine ⟨?_, rfl⟩
    show _ = u2 J 85 (80 * c + k) rem 85 (80 * c + j)
    rw [u2_at]
    by_cases e : j = k
    · subst e; rw [stf_at, if_pos rfl]
    · rw [stf_ne _ _ e, if_neg (by omega)]
  · obtain ⟨z1, z2⟩ := fN_cong (f := cOv c (S, u2 (u2 (u2 (u2 I 42 59 0) 42 59 (nI (0 + p))) 42 60 e) 72 c (nI q), u1 (u1 (u1 (u1 (u2 J 85 (80 * c + k) rem) 87 g) 88 g') 89 ra) 90 rb, R, nn)) (g := fun k => J 86 (80 * c + k)) (f' := g) (g' := g') (n := p) (fun j hj => by
      refine ⟨?_, ((ef j hj).2).symm⟩
      rw [(ef j hj).1]
      show u2 J 85 (80 * c + k) rem 85 (80 * c + j) = _
      rw [u2_at]
      by_cases e : j = k
      · subst e; rw [stf_at, if_pos rfl]
      · rw [stf_ne _ _ e, if_neg (by omega)])
    show fN' _ (fun k => J 86 (80 * c + k)) p / fD (fun k => J 86 (80 * c + k)) p = q
    rw [z1, z2]; exact hq'
  · obtain ⟨z1, z2⟩ := fN_cong (f := cOv c (S, u2 (u2 (u2 (u2 I 42 59 0) 42 59 (nI (0 + p))) 42 60 e) 72 c (nI q), u1 (u1 (u1 (u1 (u2 J 85 (80 * c + k) rem) 87 g) 88 g') 89 ra) 90 rb, R, nn)) (g := fun k => J 86 (80 * c + k)) (f' := stf (fun k => J 85 (80 * c + k)) k rem) (g' := fun k => J 86 (80 * c + k)) (n := p) (fun j hj => by
      refine ⟨?_, rfl⟩
      show u2 J 85 (80 * c + k) rem 85 (80 * c + j) = _
      rw [u2_at]
      by_cases e : j = k
      · subst e; rw [stf_at, if_pos rfl]
      · rw [stf_ne _ _ e, if_neg (by omega)])
    show fN' _ (fun k => J 86 (80 * c + k)) p * d.toInt = _
    rw [z1]; exact hmore
  · show ((Int64.toInt32 ((J 85 (80 * c + k) + a) / d) + u2 (u2 (u2 (u2 I 42 59 0) 42 59 (nI (0 + p))) 42 60 e) 72 c (nI q) 72 c) - I 72 c).toInt = _
    rw [u2_at, if_pos rfl]
    have e1 : (Int64.toInt32 ((J 85 (80 * c + k) + a) / d)).toInt = ((J 85 (80 * c + k)).toInt + a.toInt) / d.toInt := by rw [n_l2i] <;> rw [ediv] <;> omega
    have e2 : (nI q).toInt = q := nI_toInt (by omega)
    have e3 : (Int64.toInt32 ((J 85 (80 * c + k) + a) / d) + nI q).toInt = ((J 85 (80 * c + k)).toInt + a.toInt) / d.toInt + q := by rw [n_add] <;> rw [e1, e2] <;> omega
    rw [n_sub] <;> rw [e3] <;> omega
end More2
