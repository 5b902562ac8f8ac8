/-! seal, clear, leg -/
def FinS (L : Nat) (xs : Nat → Int32) (t : Nat) (a b : Int32) (X : AX) : Prop := (∃ n s h l, Rel L xs (t + 1) n s h l X) ∧ b = a
theorem rlL_up {n s n' s' : Nat} {X : AX} (h : rlL n s X) (hn : n ≤ n') (hs : s ≤ s') : rlL n' s' X := fun j hj => by
  obtain ⟨a, b, c, d, e⟩ := h j hj
  refine ⟨a, b, c, fun z => ⟨(d z).1, ?_⟩, fun z => ⟨(e z).1, ?_⟩⟩
  · have := (d z).2; omega
  · have := (e z).2; omega
theorem sumI_cong {f g : Nat → Int32} : ∀ {n : Nat}, (∀ j, j < n → f j = g j) → sumI f n = sumI g n
  | 0, _ => rfl
  | n + 1, h => by rw [sumI, sumI, sumI_cong (fun j hj => h j (by omega)), h n (by omega)]
theorem sumI_rng {f : Nat → Int32} : ∀ {n : Nat}, (∀ j, j < n → 0 ≤ (f j).toInt ∧ (f j).toInt ≤ 3840) → 0 ≤ sumI f n ∧ sumI f n ≤ 3840 * n
  | 0, _ => by simp [sumI]
  | n + 1, h => by
    have := sumI_rng (f := f) (n := n) (fun j hj => h j (by omega))
    have := h n (by omega)
    rw [sumI]; omega
section Ops
variable {L : Nat} {xs : Nat → Int32} {t n s h l : Nat} {X : AX} {K : Option AV → AX → Prop} {KX : String → AX → Prop}
set_option maxHeartbeats 4000000 in
theorem op_clear (ht : t < 600) (H : Rel L xs t n s h l X) (hK : ∀ a X1, SamS X X1 → (∀ K2 KX2, (∀ b X4, FinS L xs t a b X4 → K2 (some (vI b)) X4) → w_X12_clear tb0 [vR (some 42)] X1 K2 KX2) → K (some (vI a)) X1) : w_X11_clear tb0 [vR (some 4)] X K KX := by
  obtain ⟨hS, hW, hR, hT, hL, hE, hKk, hH, hC, hG⟩ := id H
  refine i_X11_clear (hK _ _ (SamS.mk rfl rfl) (fun K2 KX2 hK2 => i_X12_clear (hK2 _ _ ⟨⟨n, s, h, 0, ⟨rlS_n (X := X) hS rfl rfl rfl rfl rfl (Nat.le_refl _), hW, hR, rlT_fr (X := X) (by repeat (first | exact fun _ _ => rfl | refine u2_hi (by decide) ?_ | refine u1_hi (by decide) ?_)) rfl rfl rfl rfl (Nat.le_refl _) rfl rfl hT, hL, hE, ⟨rfl, rfl, by decide, fun j hj => absurd hj (Nat.not_lt_zero _), rfl, (by decide : (0 : Int32).toInt ≤ 3840)⟩, rlH_up hH, rlC_fr (X := X) (by repeat (first | exact fun _ _ => rfl | refine u2_hi (by decide) ?_ | refine u1_hi (by decide) ?_)) rfl rfl rfl rfl rfl rfl rfl rfl (Nat.le_refl _) rfl hC, rlG_up hG⟩⟩, ?_⟩)))
  show xI X 42 25 = xI X 34 2
  rw [hKk.1, hKk.2.1]
set_option maxHeartbeats 4000000 in
theorem op_seal (ht : t < 600) (H : Rel L xs t n s h l X) (hK : ∀ a X1, SamS X X1 → (∀ K2 KX2, (∀ b X4, FinS L xs t a b X4 → K2 (some (vI b)) X4) → w_X12_seal tb0 [vR (some 42)] X1 K2 KX2) → K (some (vI a)) X1) : w_X11_seal tb0 [vR (some 4)] X K KX := by
  obtain ⟨hS, hW, hR, hT, hL, hE, hKk, hH, hC, hG⟩ := id H
  have hs1 := hE.1
  have hs2 := hE.2.1
  have hs3 := hE.2.2.1
  rcases Nat.lt_or_ge s 40 with q | q
  · refine i_X11_seal ⟨fun c => e_X11_seal_14 (i_X9_add (i_X9_makeWhole ?_)), fun c => absurd (by rw [hs1]; exact nI_lt (b := 40) q (by decide)) c⟩
    rw [hs1, nI_clamp (by omega)]
    refine ⟨vp_in_nI q (by decide), Or.inr rfl, vp_in_nI q (by decide), rV_in (rI_in ?_)⟩
    refine hK _ _ (SamS.mk rfl rfl) (fun K2 KX2 hK2 => ?_)
    dsimp only [xI, xJ, xR, xS, xN]
    refine i_X12_seal ⟨fun c => e_X12_seal_16 ?_, fun c => ?_⟩
    · show vp_in (xI X 42 6) 40 ∧ _ ∧ vp_in (xI X 42 6) 40 ∧ K2 (some (vI (xI X 42 6 + 1 - 1))) (X.1, u2 (u2 (u2 (u2 (u2 (u2 (u2 X.2.1 12 s 1) 13 s (X.2.1 4 9)) 11 2 (X.2.1 11 2 + 1)) 42 0 0) 49 (xI X 42 6).toNatClampNeg 1) 50 (xI X 42 6).toNatClampNeg (X.2.1 42 7)) 42 6 (xI X 42 6 + 1), X.2.2.1, X.2.2.2.1, X.2.2.2.2)
      rw [hs2, nI_clamp (by omega)]
      refine ⟨vp_in_nI q (by decide), Or.inr rfl, vp_in_nI q (by decide), hK2 _ _ ⟨⟨n, s + 1, h, l, ⟨rlS_n (X := X) hS rfl rfl rfl rfl rfl (Nat.le_refl _), hW, hR, rlT_fr (X := X) (by repeat (first | exact fun _ _ => rfl | refine u2_hi (by decide) ?_ | refine u1_hi (by decide) ?_)) rfl rfl rfl rfl (Nat.le_refl _) rfl rfl hT, rlL_up hL (Nat.le_refl _) (Nat.le_succ _), ?_, hKk, rlH_up hH, rlC_fr (X := X) (by repeat (first | exact fun _ _ => rfl | refine u2_hi (by decide) ?_ | refine u1_hi (by decide) ?_)) rfl rfl rfl rfl rfl rfl rfl rfl (Nat.le_refl _) rfl hC, rlG_up hG⟩⟩, ?_⟩⟩
      · refine ⟨?_, ?_, by omega, fun j hj => ?_⟩
        · show xI X 11 2 + 1 = nI (s + 1)
          rw [hs1, nI_1]
        · show nI s + 1 = nI (s + 1)
          rw [nI_1]
        · obtain ⟨d1, d2, d3⟩ := hE.2.2.2 j hj
          show (stf (xI X 49) s 1 j = stf (xI X 12) s 1 j) ∧ bl (stf (xI X 12) s 1 j) ∧ stf (xI X 50) s (xI X 42 7) j = stf (xI X 13) s (xI X 4 9) j
          by_cases e : j = s
          · subst e
            rw [stf_at, stf_at, stf_at, stf_at]
            exact ⟨rfl, Or.inr rfl, hH.2.1.trans hH.1.symm⟩
          · rw [stf_ne _ _ e, stf_ne _ _ e, stf_ne _ _ e, stf_ne _ _ e]
            exact ⟨d1, d2, d3⟩
      · show nI s + 1 - 1 = xI X 11 2 + 1 - 1
        rw [hs1]
    · have c' : xI X 42 6 = 40 := c
      rw [hs2] at c'
      exact absurd ((nI_eq (b := 40) (by omega) (by decide)).mp c') (by omega)
  · have e : s = 40 := by omega
    refine i_X11_seal ⟨fun c => ?_, fun c => hK _ _ (SamS.mk rfl rfl) (fun K2 KX2 hK2 => i_X12_seal ⟨fun c1 => ?_, fun c1 => hK2 _ _ ⟨⟨n, s, h, l, ⟨rlS_n (X := X) hS rfl rfl rfl rfl rfl (Nat.le_refl _), hW, hR, rlT_fr (X := X) (by repeat (first | exact fun _ _ => rfl | refine u2_hi (by decide) ?_ | refine u1_hi (by decide) ?_)) rfl rfl rfl rfl (Nat.le_refl _) rfl rfl hT, hL, hE, hKk, rlH_up hH, rlC_fr (X := X) (by repeat (first | exact fun _ _ => rfl | refine u2_hi (by decide) ?_ | refine u1_hi (by decide) ?_)) rfl rfl rfl rfl rfl rfl rfl rfl (Nat.le_refl _) rfl hC, rlG_up hG⟩⟩, rfl⟩⟩)⟩
    · rw [hs1, e] at c; exact absurd c (by decide)
    · rw [hs2, e] at c1; exact absurd rfl c1
end Ops
