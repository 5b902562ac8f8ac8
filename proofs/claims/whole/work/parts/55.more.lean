/-! the reference's rows of parts -/
theorem ix80 (c i : Nat) : (80 : Int32) * nI c + nI i = nI (80 * c + i) := by
  rw [show (80 : Int32) = nI 80 from rfl, pk_mul, nI_add]
section More
variable {S : Nat → Nat × Nat} {I : Nat → Nat → Int32} {J : Nat → Nat → Int64} {R : Nat → Nat → Option Nat} {nn : Nat} {K : Option AV → AX → Prop} {KX : String → AX → Prop} {c p s0 : Nat}
theorem collect_loop (hc : c < 5) (hp : I 73 c = nI p) (hp8 : p ≤ 80) (hsp : s0 + p ≤ 170)
    (hK : ∀ g g', (∀ j, j < s0 → g j = J 87 j ∧ g' j = J 88 j) → (∀ k, k < p → g (s0 + k) = J 85 (80 * c + k) ∧ g' (s0 + k) = J 86 (80 * c + k)) → K none (S, u2 I 42 59 (nI (s0 + p)), u1 (u1 J 87 g) 88 g', R, nn)) :
    ∀ (r i : Nat) (g g' : Nat → Int64), i + r = p → (∀ j, j < s0 → g j = J 87 j ∧ g' j = J 88 j) → (∀ k, k < i → g (s0 + k) = J 85 (80 * c + k) ∧ g' (s0 + k) = J 86 (80 * c + k)) →
      r_X12_collect tb0 K KX 2 [some (vR (some 42)), some (vI (nI c)), some (vI (nI i))] [] (S, u2 I 42 59 (nI (s0 + i)), u1 (u1 J 87 g) 88 g', R, nn) 0 0
  | 0, i, g, g', hi, h1, h2 => by
    have e : i = p := by omega
    subst e
    refine e_X12_collect_2 ⟨vp_in_nI (by omega) (by decide), fun _ => e_X12_collect_68 (hK g g' h1 h2), fun z => absurd ?_ z⟩
    rw [nI_clamp (by omega)]
    show I 73 c ≤ nI i
    rw [hp]; exact nI_le (Nat.le_refl _) (by omega)
  | r + 1, i, g, g', hi, h1, h2 => by
    refine e_X12_collect_2 ⟨vp_in_nI (by omega) (by decide), ?_⟩
    rw [nI_clamp (by omega), ix80, nI_clamp (by omega)]
    show (I 73 c ≤ nI i → _) ∧ (¬ I 73 c ≤ nI i → vp_in (nI (80 * c + i)) 400 ∧ vp_in (nI (s0 + i)) 170 ∧ vp_in (nI (80 * c + i)) 400 ∧ vp_in (nI (s0 + i)) 170 ∧ r_X12_collect tb0 K KX 2 [some (vR (some 42)), some (vI (nI c)), some (vI (nI i + 1))] [] (S, u2 (u2 I 42 59 (nI (s0 + i))) 42 59 (nI (s0 + i) + 1), u2 (u2 (u1 (u1 J 87 g) 88 g') 87 ((nI (s0 + i)).toNatClampNeg) (J 85 (80 * c + i))) 88 ((nI (s0 + i)).toNatClampNeg) (J 86 (80 * c + i)), R, nn) 0 0)
    rw [hp]
    refine ⟨fun z => absurd z (nI_ge (by omega) (by omega)), fun _ => ⟨vp_in_nI (by omega) (by decide), vp_in_nI (by omega) (by decide), vp_in_nI (by omega) (by decide), vp_in_nI (by omega) (by decide), ?_⟩⟩
    rw [nI_clamp (by omega), u2_2, nI_1, nI_1, u1_cm J (by decide : (87 : Nat) ≠ 88), u2_u1, u1_cm J (by decide : (88 : Nat) ≠ 87), u2_u1]
    refine collect_loop hc hp hp8 hsp hK r (i + 1) _ _ (by omega) (fun j hj => ?_) (fun k hk => ?_)
    · rw [stf_ne _ _ (by omega), stf_ne _ _ (by omega)]; exact h1 j hj
    · by_cases e : k = i
      · subst e; rw [stf_at, stf_at]; exact ⟨rfl, rfl⟩
      · rw [stf_ne _ _ (by omega), stf_ne _ _ (by omega)]; exact h2 k (by omega)
theorem s_collect (hc : c < 5) (hp : I 73 c = nI p) (hp8 : p ≤ 80) (hs : I 42 59 = nI s0) (hsp : s0 + p ≤ 170)
    (hK : ∀ g g', (∀ j, j < s0 → g j = J 87 j ∧ g' j = J 88 j) → (∀ k, k < p → g (s0 + k) = J 85 (80 * c + k) ∧ g' (s0 + k) = J 86 (80 * c + k)) → K none (S, u2 I 42 59 (nI (s0 + p)), u1 (u1 J 87 g) 88 g', R, nn)) : w_X12_collect tb0 [vR (some 42), vI (nI c)] (S, I, J, R, nn) K KX := by
  have z := collect_loop (K := K) (KX := KX) (S := S) (I := I) (J := J) (R := R) (nn := nn) hc hp hp8 hsp hK p 0 (J 87) (J 88) (by omega) (fun j _ => ⟨rfl, rfl⟩) (fun k hk => absurd hk (Nat.not_lt_zero _))
  rw [Nat.add_zero, ← hs, u2_self, u1_self, u1_self] at z
  exact i_X12_collect z
end More
theorem fN_cong {f g f' g' : Nat → Int64} : ∀ {n : Nat}, (∀ k, k < n → f k = f' k ∧ g k = g' k) → fN' f g n = fN' f' g' n ∧ fD g n = fD g' n
  | 0, _ => ⟨rfl, rfl⟩
  | n + 1, h => by
    obtain ⟨a, b⟩ := fN_cong (n := n) (fun k hk => h k (by omega))
    obtain ⟨u, v⟩ := h n (by omega)
    rw [fN', fN', fD, fD, a, b, u, v]
    exact ⟨rfl, rfl⟩
/-- one part is changed -/
theorem fN_upd {f g f' : Nat → Int64} {k : Nat} {x : Int} (hx : (f' k).toInt = (f k).toInt + x) : ∀ {n : Nat}, k < n → (∀ j, j < n → j ≠ k → f' j = f j) → fN' f' g n * (g k).toInt = fN' f g n * (g k).toInt + x * fD g n
  | 0, h, _ => absurd h (Nat.not_lt_zero _)
  | n + 1, h, hf => by
    rw [fN', fN', fD]
    by_cases e : k = n
    · subst e
      rw [(fN_cong (f := f') (g := g) (f' := f) (g' := g) (n := k) (fun j hj => ⟨hf j (by omega) (by omega), rfl⟩)).1, hx]
      grind
    · have q := fN_upd (f := f) (g := g) (f' := f') hx (n := n) (by omega) (fun j hj hjk => hf j (by omega) hjk)
      rw [hf n (by omega) (by omega)]
      have : (fN' f' g n * (g n).toInt + fD g n * (f n).toInt) * (g k).toInt = fN' f' g n * (g k).toInt * (g n).toInt + fD g n * (f n).toInt * (g k).toInt := by grind
      rw [this, q]
      grind
/-- the sum after a part n / d has come, its wholes w taken out -/
theorem fN_more {f g f' : Nat → Int64} {k p : Nat} {n d w : Int} (hk : k < p) (hg : (g k).toInt = d) (hd : 0 < d) (hx : (f' k).toInt = (f k).toInt + n - w * d) (hf : ∀ j, j < p → j ≠ k → f' j = f j) : fN' f' g p * d = fN' f g p * d + (n - w * d) * fD g p := by
  have := fN_upd (f := f) (g := g) (f' := f') (k := k) (x := n - w * d) (by omega) hk hf
  rw [hg] at this
  exact this
/-- class and reference come to the same -/
theorem frac_same {N D T B n d w due T1 B1 N1 D1 M : Int} (hD : 0 < D) (hB : 0 < B) (hd : 0 < d) (hB1 : 0 < B1) (hD1 : 0 < D1) (h0 : N * B = (M * B + T) * D) (hc : T1 * (B * d) = (T * d + n * B - due * (B * d)) * B1) (ht0 : 0 ≤ T1) (ht1 : T1 < B1) (hm : N1 * (D * d) = (N * d + (n - w * d) * D) * D1) : N1 / D1 = M + due - w ∧ N1 * B1 = ((M + due - w) * B1 + T1) * D1 := by
  have key : N1 * B1 = ((M + due - w) * B1 + T1) * D1 := by
    have e1 : N1 * B1 * (D * d * B) = ((M + due - w) * B1 + T1) * D1 * (D * d * B) := by
      have a1 : N1 * B1 * (D * d * B) = N1 * (D * d) * (B1 * B) := by grind
      have a2 : (N * d + (n - w * d) * D) * D1 * (B1 * B) = ((N * B) * d + (n - w * d) * D * B) * (D1 * B1) := by grind
      have a3 : ((M + due - w) * B1 + T1) * D1 * (D * d * B) = ((M + due - w) * (B * d) * B1 + T1 * (B * d)) * (D1 * D) := by grind
      rw [a1, hm, a2, h0, a3, hc]
      grind
    have hp : D * d * B ≠ 0 := by
      have := Int.mul_pos (Int.mul_pos hD hd) hB
      omega
    exact Int.eq_of_mul_eq_mul_right hp e1
  refine ⟨?_, key⟩
  have h1 : ((M + due - w) * D1) * B1 ≤ N1 * B1 := by
    rw [key]
    have a1 : ((M + due - w) * B1 + T1) * D1 = (M + due - w) * D1 * B1 + T1 * D1 := by grind
    have a2 : 0 ≤ T1 * D1 := Int.mul_nonneg ht0 (by omega)
    omega
  have h2 : N1 * B1 < ((M + due - w + 1) * D1) * B1 := by
    rw [key]
    have a1 : (M + due - w + 1) * D1 * B1 = ((M + due - w) * B1 + B1) * D1 := by grind
    rw [a1]
    exact Int.mul_lt_mul_of_pos_right (by omega) hD1
  exact fl_eq hD1 (Int.le_of_mul_le_mul_right h1 hB1) (Int.lt_of_mul_lt_mul_right h2 (Int.le_of_lt hB1))
