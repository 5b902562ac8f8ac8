theorem n_shlor {x y : Int64} (hx : 0 ≤ x.toInt ∧ x.toInt < 2147483648) (hy : 0 ≤ y.toInt ∧ y.toInt < 1073741824) : ((x <<< (Int32.toInt64 30 &&& 63)) ||| y).toInt = x.toInt * 1073741824 + y.toInt := by
  have ex : (x.toBitVec.toNat : Int) = x.toInt := by
    have h : x.toInt = x.toBitVec.toInt := rfl
    rw [BitVec.toInt_eq_toNat_cond] at h
    split at h <;> omega
  have ey : (y.toBitVec.toNat : Int) = y.toInt := by
    have h : y.toInt = y.toBitVec.toInt := rfl
    rw [BitVec.toInt_eq_toNat_cond] at h
    split at h <;> omega
  have e1 : ((x <<< (Int32.toInt64 30 &&& 63)) ||| y).toBitVec = (x.toBitVec <<< (30 : Nat)) ||| y.toBitVec := by
    show (x.toBitVec <<< ((Int32.toInt64 30 &&& 63).toBitVec.smod 64)) ||| y.toBitVec = _
    rw [show (Int32.toInt64 30 &&& 63).toBitVec.smod 64 = 30#64 from by decide]
    rfl
  have e2 : ((x.toBitVec <<< (30 : Nat)) ||| y.toBitVec).toNat = x.toBitVec.toNat * 1073741824 + y.toBitVec.toNat := by
    rw [BitVec.toNat_or, BitVec.toNat_shiftLeft, Nat.shiftLeft_eq, Nat.mod_eq_of_lt (by omega)]
    have := Nat.shiftLeft_add_eq_or_of_lt (i := 30) (b := y.toBitVec.toNat) (by omega) x.toBitVec.toNat
    rw [Nat.shiftLeft_eq] at this
    omega
  show ((x <<< (Int32.toInt64 30 &&& 63)) ||| y).toBitVec.toInt = _
  rw [e1, BitVec.toInt_eq_toNat_of_lt (by rw [e2]; omega), e2]
  omega
theorem n_divL {x y : Int64} (hx : 0 ≤ x.toInt) (hy : 0 < y.toInt) : (x / y).toInt = x.toInt / y.toInt := by
  have hb := n_rngL x
  rw [Int64.toInt_div, Int.tdiv_eq_ediv_of_nonneg hx]
  have h1 : 0 ≤ x.toInt / y.toInt := Int.ediv_nonneg hx (by omega)
  have h2 : x.toInt / y.toInt ≤ x.toInt := Int.ediv_le_self _ hx
  exact n_bmodL (by omega) (by omega)
theorem n_remL {x y : Int64} (hx : 0 ≤ x.toInt) (hy : 0 < y.toInt) : (x - x / y * y).toInt = x.toInt % y.toInt := by
  have hb := n_rngL x
  have e1 := n_divL hx hy
  have h3 : x.toInt / y.toInt * y.toInt + x.toInt % y.toInt = x.toInt := by rw [Int.mul_comm]; exact Int.mul_ediv_add_emod _ _
  have h4 := Int.emod_nonneg x.toInt (show y.toInt ≠ 0 by omega)
  have h0 : 0 ≤ x.toInt / y.toInt * y.toInt := Int.mul_nonneg (Int.ediv_nonneg hx (by omega)) (by omega)
  have e2 : (x / y * y).toInt = x.toInt / y.toInt * y.toInt := by rw [n_mulL] <;> rw [e1] <;> omega
  rw [n_subL] <;> rw [e2] <;> omega
theorem n_div {x y : Int32} (hx : 0 ≤ x.toInt) (hy : 0 < y.toInt) : (x / y).toInt = x.toInt / y.toInt := by
  have hb := n_rng x
  rw [Int32.toInt_div, Int.tdiv_eq_ediv_of_nonneg hx]
  have h1 : 0 ≤ x.toInt / y.toInt := Int.ediv_nonneg hx (by omega)
  have h2 : x.toInt / y.toInt ≤ x.toInt := Int.ediv_le_self _ hx
  exact n_bmod (by omega) (by omega)
theorem n_rem {x y : Int32} (hx : 0 ≤ x.toInt) (hy : 0 < y.toInt) : (x - x / y * y).toInt = x.toInt % y.toInt := by
  have hb := n_rng x
  have e1 := n_div hx hy
  have h3 : x.toInt / y.toInt * y.toInt + x.toInt % y.toInt = x.toInt := by rw [Int.mul_comm]; exact Int.mul_ediv_add_emod _ _
  have h4 := Int.emod_nonneg x.toInt (show y.toInt ≠ 0 by omega)
  have h0 : 0 ≤ x.toInt / y.toInt * y.toInt := Int.mul_nonneg (Int.ediv_nonneg hx (by omega)) (by omega)
  have e2 : (x / y * y).toInt = x.toInt / y.toInt * y.toInt := by rw [n_mul] <;> rw [e1] <;> omega
  rw [n_sub] <;> rw [e2] <;> omega
section Div
variable {a q la lq n : Nat} {S : Nat → Nat × Nat} {F : Nat → Nat → Int32} {J : Nat → Nat → Int64} {R : Nat → Nat → Option Nat} {nn : Nat} {d : Int32} {K : Option AV → AX → Prop} {KX : String → AX → Prop}
theorem divide_loop (haq : a ≠ q) (h4 : 4 ≤ q) (hsa : ∀ I, shp tb0 (S, I, J, R, nn) a = (1, la)) (hsq : ∀ I, shp tb0 (S, I, J, R, nn) q = (1, lq)) (hla : n ≤ la ∧ la < 2 ^ 31) (hlq : n ≤ lq ∧ lq < 2 ^ 31) (hga : lg (F a) n) (hd : 0 < d.toInt) {l1 : Int32}
    (hK : ∀ g (r : Int32), lg g n → 0 ≤ r.toInt ∧ r.toInt < d.toInt → lv (F a) n = d.toInt * lv g n + r.toInt → (∀ i, n ≤ i → g i = F q i) → K (some (vI r)) (S, u1 F q g, J, R, nn)) :
    ∀ (i : Nat) (g : Nat → Int32) (c : Int64) (qh : Int), i ≤ n → (∀ j, i ≤ j → j < n → 0 ≤ (g j).toInt ∧ (g j).toInt < 1073741824) → (∀ j, n ≤ j → g j = F q j) → (0 ≤ c.toInt ∧ c.toInt < d.toInt) → lv g n - lv g i = qh * (1073741824 : Int) ^ i → lv (F a) n = lv (F a) i + (d.toInt * qh + c.toInt) * (1073741824 : Int) ^ i →
      r_X7_divide tb0 K KX 25 [some (vR (some a)), some (vI l1), some (vI d), some (vR (some q)), some (vL c), none, some (vI (nI i - 1))] [] (S, u1 F q g, J, R, nn) 0 0
  | 0, g, c, qh, hi, hg, hk, hc, h1, h2 => by
    have hdr := n_rng d
    refine e_X7_divide_25 ⟨fun _ => e_X7_divide_66 (hK g _ (fun j hj => hg j (by omega) hj) ?_ ?_ hk), fun h => absurd (by decide) h⟩
    · rw [n_l2i (by omega) (by omega)]; exact hc
    · rw [n_l2i (by omega) (by omega)]
      simp only [lv, Int.pow_zero, Int.mul_one] at h1 h2
      rw [h2]
      have : qh = lv g n := by omega
      rw [this]; omega
  | i + 1, g, c, qh, hi, hg, hk, hc, h1, h2 => by
    have hdr := n_rng d
    have hfa : u1 F q g a = F a := u1_ne _ _ haq
    rw [nI_pred]
    refine e_X7_divide_25 ⟨fun h => absurd h (nI_pos (by omega)), fun _ => ?_⟩
    rw [hsa, hsq, nI_clamp (by omega)]
    have hd0 : ¬ Int32.toInt64 d = 0 := fun h => by
      have := congrArg Int64.toInt h
      rw [n_i2l] at this
      have e0 : (0 : Int64).toInt = 0 := rfl
      omega
    refine gd_in rfl ⟨vp_in_nI (by omega) (by omega), hd0, gd_in ⟨h4, rfl⟩ ⟨vp_in_nI (by omega) (by omega), hd0, ?_⟩⟩
    show r_X7_divide tb0 K KX 25 [some (vR (some a)), some (vI l1), some (vI d), some (vR (some q)), some (vL (((c <<< (Int32.toInt64 30 &&& 63)) ||| Int32.toInt64 (u1 F q g a i)) - ((c <<< (Int32.toInt64 30 &&& 63)) ||| Int32.toInt64 (u1 F q g a i)) / Int32.toInt64 d * Int32.toInt64 d)), none, some (vI (nI i + (-1)))] [] (S, u2 (u1 F q g) q i (Int64.toInt32 (((c <<< (Int32.toInt64 30 &&& 63)) ||| Int32.toInt64 (u1 F q g a i)) / Int32.toInt64 d)), J, R, nn) 0 0
    rw [hfa, u2_u1, show nI i + (-1) = nI i - 1 from (Int32.sub_eq_add_neg (nI i) 1).symm]
    have hai := hga i (by omega)
    have e0 : ((c <<< (Int32.toInt64 30 &&& 63)) ||| Int32.toInt64 (F a i)).toInt = c.toInt * 1073741824 + (F a i).toInt := by
      rw [n_shlor ⟨hc.1, by omega⟩ (by rw [n_i2l]; exact hai), n_i2l]
    generalize ht : ((c <<< (Int32.toInt64 30 &&& 63)) ||| Int32.toInt64 (F a i)) = t at *
    have hdl : (Int32.toInt64 d).toInt = d.toInt := n_i2l d
    have ht0 : 0 ≤ t.toInt := by omega
    have eq := n_divL (x := t) (y := Int32.toInt64 d) ht0 (by omega)
    have er := n_remL (x := t) (y := Int32.toInt64 d) ht0 (by omega)
    rw [hdl] at eq er
    have hq0 : 0 ≤ t.toInt / d.toInt := Int.ediv_nonneg ht0 (by omega)
    have hq1 : t.toInt / d.toInt < 1073741824 := by
      apply Int.ediv_lt_of_lt_mul hd
      have : (c.toInt + 1) * 1073741824 ≤ d.toInt * 1073741824 := Int.mul_le_mul_of_nonneg_right (by omega) (by decide)
      rw [Int.mul_comm 1073741824 d.toInt]
      omega
    have eqi : (Int64.toInt32 (t / Int32.toInt64 d)).toInt = t.toInt / d.toInt := by rw [n_l2i] <;> rw [eq] <;> omega
    have hr0 := Int.emod_nonneg t.toInt (show d.toInt ≠ 0 by omega)
    have hr1 := Int.emod_lt_of_pos t.toInt hd
    have hdm : d.toInt * (t.toInt / d.toInt) + t.toInt % d.toInt = t.toInt := Int.mul_ediv_add_emod _ _
    refine divide_loop haq h4 hsa hsq hla hlq hga hd hK i _ _ (qh * 1073741824 + t.toInt / d.toInt) (by omega) (fun j a1 a2 => ?_) (fun j hj => ?_) (by rw [er]; exact ⟨hr0, hr1⟩) ?_ ?_
    · by_cases hji : j = i
      · subst hji; rw [stf_at, eqi]; exact ⟨hq0, hq1⟩
      · rw [stf_ne _ _ hji]; exact hg j (by omega) a2
    · rw [stf_ne _ _ (by omega)]; exact hk j hj
    · have hs : ∀ m, i + 1 ≤ m → lv (stf g i (Int64.toInt32 (t / Int32.toInt64 d))) m - lv g m = ((t.toInt / d.toInt) - (g i).toInt) * (1073741824 : Int) ^ i := by
        intro m hm
        induction m with
        | zero => omega
        | succ m ih =>
          rcases Nat.lt_or_ge i m with q | q
          · rw [lv, lv, stf_ne _ _ (by omega)]
            have := ih (by omega)
            omega
          · have e : m = i := by omega
            subst e
            rw [lv, lv, stf_at, eqi, lv_cong (f := stf g m _) (g := g) (fun j hj => stf_ne _ _ (by omega)), Int.sub_mul]
            omega
      have h3 := hs n (by omega)
      have h5 : lv (stf g i (Int64.toInt32 (t / Int32.toInt64 d))) i = lv g i := lv_cong fun j hj => stf_ne _ _ (by omega)
      rw [h5]
      rw [lv, Int.pow_succ] at h1
      rw [Int.add_mul, Int.mul_assoc, Int.mul_comm 1073741824]
      rw [Int.sub_mul] at h3
      omega
    · rw [h2, lv, er, Int.pow_succ]
      have h6 : (d.toInt * (qh * 1073741824 + t.toInt / d.toInt) + t.toInt % d.toInt) = (d.toInt * qh + c.toInt) * 1073741824 + (F a i).toInt := by
        rw [Int.mul_add, Int.add_mul, ← Int.mul_assoc]; omega
      rw [h6]
      generalize d.toInt * qh + c.toInt = u
      generalize (1073741824 : Int) ^ i = B
      have h7 : u * (B * 1073741824) = u * 1073741824 * B := by rw [Int.mul_comm B, Int.mul_assoc]
      rw [Int.add_mul, h7]
      omega
theorem s_divide (haq : a ≠ q) (h4 : 4 ≤ q) (hsa : ∀ I, shp tb0 (S, I, J, R, nn) a = (1, la)) (hsq : ∀ I, shp tb0 (S, I, J, R, nn) q = (1, lq)) (hla : n ≤ la ∧ la < 2 ^ 31) (hlq : n ≤ lq ∧ lq < 2 ^ 31) (hga : lg (F a) n) (hd : 0 < d.toInt)
    (hK : ∀ g (r : Int32), lg g n → 0 ≤ r.toInt ∧ r.toInt < d.toInt → lv (F a) n = d.toInt * lv g n + r.toInt → (∀ i, n ≤ i → g i = F q i) → K (some (vI r)) (S, u1 F q g, J, R, nn)) :
    w_X7_divide tb0 [vR (some a), vI (nI n), vI d, vR (some q)] (S, F, J, R, nn) K KX := by
  have hd1 : (1 : Int32) ≤ d := Int32.le_iff_toInt_le.mpr (by have e : (1 : Int32).toInt = 1 := rfl; omega)
  refine i_X7_divide ⟨fun _ => e_X7_divide_7 ?_, fun h => absurd hd1 h⟩
  rw [hsa, hsq]
  refine gd_in (show (0 : Nat) < 1 ∧ (1 : Nat) < 6 from by decide) (gd_in (show (0 : Nat) < 1 ∧ (1 : Nat) < 6 from by decide) ?_)
  have e1 : (if (if Int32.ofNat lq < Int32.ofNat la then Int32.ofNat lq else Int32.ofNat la) < nI n then (if Int32.ofNat lq < Int32.ofNat la then Int32.ofNat lq else Int32.ofNat la) else nI n) = nI n := by
    rw [if_neg]
    split
    · exact nI_nlt hlq.1 hlq.2
    · exact nI_nlt hla.1 hla.2
  rw [e1]
  have h := divide_loop (a := a) (q := q) (la := la) (lq := lq) (n := n) (S := S) (F := F) (J := J) (R := R) (nn := nn) (d := d) (K := K) (KX := KX) (l1 := nI n) haq h4 hsa hsq hla hlq hga hd hK n (F q) 0 0 (Nat.le_refl n) (fun j h1 h2 => by omega) (fun _ _ => rfl) ⟨by decide, hd⟩ (by omega) (by
    have e : (0 : Int64).toInt = 0 := rfl
    rw [e]; simp)
  rw [u1_self] at h
  exact h
end Div
