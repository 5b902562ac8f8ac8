/-! the wheel's floats are numbers -/
theorem nn_of {r : UInt32} (h : FP.Core.val32 r ≠ .nan) : vf_n32 r := by
  unfold vf_n32
  rw [UInt32.le_iff_toNat_le, UInt32.toNat_and]
  have e : (0x7fffffff : UInt32).toNat = 2 ^ 31 - 1 := rfl
  rw [e, Nat.and_two_pow_sub_one_eq_mod]
  show r.toNat % 2 ^ 31 ≤ 2139095040
  apply Classical.byContradiction
  intro hc
  apply h
  show FP.Core.decode FP.Core.b32 r.toNat = .nan
  have hE : FP.Core.fieldE FP.Core.b32 r.toNat = 255 := by
    show r.toNat / 2 ^ 23 % 2 ^ 8 = 255
    omega
  have hT : ¬ FP.Core.fieldT FP.Core.b32 r.toNat = 0 := by
    show ¬ r.toNat % 2 ^ 23 = 0
    omega
  unfold FP.Core.decode
  rw [if_pos (by rw [hE]; rfl), if_neg hT]
theorem rr_nn (f : FP.Core.Fmt) (s : Bool) (a b : Nat) (e : Int) : FP.Core.roundRatio f s a b e ≠ .nan := by
  unfold FP.Core.roundRatio
  split
  · intro z; cases z
  · unfold FP.Core.roundAt FP.Core.settle FP.Core.bound
    split <;> split <;> intro z <;> cases z
theorem p2_f : ∀ s : Nat, s < 21 → FP.Core.val32 (FP.Core.i2f (1 <<< (nI s &&& 31))) = .fin false (2 ^ 23) ((s : Int) - 23) := by decide +kernel
theorem k_f : FP.Core.val32 1148846080 = .fin false 16384000 (-14) := by decide +kernel
theorem fl_ok {a s : Int32} (h0 : 0 ≤ s.toInt) (h1 : s.toInt ≤ 20) : vf_n32 (FP.fdiv (FP.i2f a) (FP.i2f (1 <<< (s &&& 31)))) ∧ vf_n32 (FP.fmul (FP.fdiv (FP.i2f a) (FP.i2f (1 <<< (s &&& 31)))) 1148846080) := by
  have hs : s = nI s.toInt.toNat := nI_ofI h0
  have e1 : FP.Core.val32 (FP.Core.i2f (1 <<< (s &&& 31))) = .fin false (2 ^ 23) ((s.toInt.toNat : Int) - 23) := by
    have := p2_f s.toInt.toNat (by omega)
    rw [← hs] at this
    exact this
  have hx : FP.Core.val32 (FP.Core.i2f a) ≠ .nan := by
    rw [FP.Core.val32_i2f]
    exact rr_nn _ _ _ _ _
  have hd : FP.Core.val32 (FP.Core.fdiv (FP.Core.i2f a) (FP.Core.i2f (1 <<< (s &&& 31)))) ≠ .nan := by
    rw [FP.Core.val32_fdiv, e1]
    cases hv : FP.Core.val32 (FP.Core.i2f a) with
    | nan => exact absurd hv hx
    | inf t => intro z; cases z
    | fin t c q =>
      have e : FP.Core.quotient FP.Core.b32 (.fin t c q) (.fin false (2 ^ 23) ((s.toInt.toNat : Int) - 23)) = FP.Core.roundRatio FP.Core.b32 (t != false) c (2 ^ 23) (q - ((s.toInt.toNat : Int) - 23)) := by
        rw [FP.Core.quotient, if_neg (by decide)]
      rw [e]
      exact rr_nn _ _ _ _ _
  refine ⟨nn_of hd, nn_of ?_⟩
  show FP.Core.val32 (FP.Core.fmul (FP.Core.fdiv (FP.Core.i2f a) (FP.Core.i2f (1 <<< (s &&& 31)))) 1148846080) ≠ .nan
  rw [FP.Core.val32_fmul, k_f]
  cases hv : FP.Core.val32 (FP.Core.fdiv (FP.Core.i2f a) (FP.Core.i2f (1 <<< (s &&& 31)))) with
  | nan => exact absurd hv hd
  | inf t => intro z; cases z
  | fin t c q => exact rr_nn _ _ _ _ _
