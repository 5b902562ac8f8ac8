section PartAdd
variable {S : Nat → Nat × Nat} {F : Nat → Nat → Int32} {J : Nat → Nat → Int64} {R : Nat → Nat → Option Nat} {nn : Nat} {K : Option AV → AX → Prop} {KX : String → AX → Prop}
theorem s_widen_38 {T B : Int} {f : Int32} (P : Pt 38 (S, F, J, R, nn) T B) (hf : 1 ≤ f.toInt ∧ f.toInt < 1073741824) (hM : f.toInt * B < 2 ^ 600) (hK : ∀ X', Fr 38 (S, F, J, R, nn) X' → Pt 38 X' (f.toInt * T) (f.toInt * B) → K none X') : w_X7_widen tb0 [vR (some 38), vI f] (S, F, J, R, nn) K KX := by
  obtain ⟨n, h2, h24, hsz, gt, gb, hz, eT, eB, t0, tB, bB⟩ := P
  obtain ⟨m, rfl⟩ : ∃ m, n = m + 1 := ⟨n - 1, by omega⟩
  simp only [Nat.add_sub_cancel] at bB
  have hsz' : F 38 3 = nI (m + 1) := hsz
  have eT' : lv (F 39) (m + 1) = T := eT
  have eB' : lv (F 40) (m + 1) = B := eB
  have fT : f.toInt * T < (1073741824 : Int) ^ (m + 1) := mul_pow_lt (by omega) ⟨by omega, hf.2⟩ ⟨t0, by simp only [Nat.add_sub_cancel]; omega⟩
  have fB : f.toInt * B < (1073741824 : Int) ^ (m + 1) := mul_pow_lt (by omega) ⟨by omega, hf.2⟩ ⟨by omega, by simp only [Nat.add_sub_cancel]; exact bB⟩
  have fTB : f.toInt * T < f.toInt * B := Int.mul_lt_mul_of_pos_left tB (by omega)
  have f0 : 0 ≤ f.toInt * T := Int.mul_nonneg (by omega) t0
  refine i_X7_widen_m38 ?_
  show w_X7_multiply tb0 [vR (some 39), vI (F 38 3), vI f] (S, F, J, R, nn) _ KX
  rw [hsz']
  refine s_multiply (la := 24) (n := m + 1) (by decide) (fun I => rfl) ⟨h24, by decide⟩ (by omega) (fun i hi => gt i (by omega)) (by rw [eT']; exact fT) (fun g1 hg1 e1 k1 => rV_in ?_)
  show w_X7_multiply tb0 [vR (some 40), vI (F 38 3), vI f] (S, u1 F 39 g1, J, R, nn) _ KX
  rw [hsz']
  refine s_multiply (F := u1 F 39 g1) (la := 24) (n := m + 1) (by decide) (fun I => rfl) ⟨h24, by decide⟩ (by omega) (fun i hi => gb i (by omega)) (by show f.toInt * lv (F 40) (m + 1) < _; rw [eB']; exact fB) (fun g2 hg2 e2 k2 => rV_in ?_)
  have e1' : lv g1 (m + 1) = f.toInt * T := by rw [e1, eT']
  have e2' : lv g2 (m + 1) = f.toInt * B := by rw [e2]; show f.toInt * lv (F 40) (m + 1) = _; rw [eB']
  have hFr : ∀ sz, Fr 38 (S, F, J, R, nn) (S, u2 (u1 (u1 F 39 g1) 40 g2) 38 3 sz, J, R, nn) := fun sz => ⟨rfl, rfl, rfl, rfl, fun i a b c d => by
    show u2 (u1 (u1 F 39 g1) 40 g2) 38 3 sz i = F i
    rw [u2_ne _ _ _ a, u1_ne _ _ c, u1_ne _ _ b]⟩
  have hFr0 : Fr 38 (S, F, J, R, nn) (S, u1 (u1 F 39 g1) 40 g2, J, R, nn) := ⟨rfl, rfl, rfl, rfl, fun i a b c d => by
    show u1 (u1 F 39 g1) 40 g2 i = F i
    rw [u1_ne _ _ c, u1_ne _ _ b]⟩
  have g1' : lg g1 24 := lg_app hg1 gt k1
  have g2' : lg g2 24 := lg_app hg2 gb k2
  have z1 : ∀ i, m + 1 ≤ i → i < 24 → g1 i = 0 ∧ g2 i = 0 := fun i a b => ⟨(k1 i a).trans (hz i a b).1, (k2 i a).trans (hz i a b).2⟩
  show vp_in (F 38 3 - 1) 24 ∧ ((g2 ((F 38 3 - 1).toNatClampNeg) = (0 : Int32) → r_X7_widen tb0 K KX 57 [some (vR (some 38)), some (vI f)] [] (S, u1 (u1 F 39 g1) 40 g2, J, R, nn) 0 0) ∧ (¬ g2 ((F 38 3 - 1).toNatClampNeg) = (0 : Int32) → ((24 : Int32) ≤ F 38 3 → r_X7_widen tb0 K KX 57 [some (vR (some 38)), some (vI f)] [] (S, u1 (u1 F 39 g1) 40 g2, J, R, nn) 0 0) ∧ (¬ (24 : Int32) ≤ F 38 3 → r_X7_widen tb0 K KX 57 [some (vR (some 38)), some (vI f)] [] (S, u2 (u1 (u1 F 39 g1) 40 g2) 38 3 (F 38 3 + 1), J, R, nn) 0 0)))
  rw [hsz', nI_pred, nI_clamp (by omega)]
  refine ⟨vp_in_nI (by omega) (by decide), fun c => e_X7_widen_57_m38 (hK _ hFr0 ?_), fun c => ⟨fun c' => ?_, fun c' => e_X7_widen_57_m38 (hK _ (hFr _) ?_)⟩⟩
  · refine ⟨m + 1, h2, h24, hsz, g1', g2', z1, e1', e2', f0, fTB, ?_⟩
    simp only [Nat.add_sub_cancel]
    rw [← e2', lv_succ0 c]
    exact (lv_rng (fun i hi => g2' i (by omega))).2
  · exfalso
    have h3 : ¬ m + 1 < 24 := fun q => absurd c' (nI_ge (a := m + 1) (b := 24) q (by decide))
    have h5 : m = 23 := by omega
    have h6 := lv_top hg2 c
    rw [e2', h5] at h6
    have h7 : (2 : Int) ^ 600 < (1073741824 : Int) ^ 23 := by decide +kernel
    omega
  · have h3 : m + 1 < 24 := by
      rcases Nat.lt_or_ge (m + 1) 24 with q | q
      · exact q
      · exact absurd (nI_le (a := 24) q (by omega)) c'
    refine ⟨m + 2, by omega, by omega, by show nI (m + 1) + 1 = nI (m + 2); rw [nI_1], g1', g2', fun i a b => z1 i (by omega) b, ?_, ?_, f0, fTB, ?_⟩
    · show lv g1 (m + 1 + 1) = _
      rw [lv_succ0 (z1 (m + 1) (Nat.le_refl _) h3).1, e1']
    · show lv g2 (m + 1 + 1) = _
      rw [lv_succ0 (z1 (m + 1) (Nat.le_refl _) h3).2, e2']
    · show f.toInt * B < (1073741824 : Int) ^ (m + 1)
      exact fB
theorem s_div_38 {T B : Int} {d : Int32} (P : Pt 38 (S, F, J, R, nn) T B) (hd : 0 < d.toInt) (hK : ∀ g (r : Int32), Pt 38 (S, u1 F 41 g, J, R, nn) T B → (∀ n, F 38 3 = nI n → n ≤ 24 → lg g n ∧ B = d.toInt * lv g n + r.toInt) → 0 ≤ r.toInt ∧ r.toInt < d.toInt → K (some (vI r)) (S, u1 F 41 g, J, R, nn)) : w_X7_divide tb0 [vR (some 40), vI (F 38 3), vI d, vR (some 41)] (S, F, J, R, nn) K KX := by
  obtain ⟨n, h2, h24, hsz, gt, gb, hz, eT, eB, t0, tB, bB⟩ := id P
  have hsz' : F 38 3 = nI n := hsz
  have eB' : lv (F 40) n = B := eB
  rw [hsz']
  refine s_divide (la := 24) (lq := 24) (by decide) (by decide) (fun I => rfl) (fun I => rfl) ⟨h24, by decide⟩ ⟨h24, by decide⟩ (fun i hi => gb i (by omega)) hd (fun g r hg hr e k => hK g r ⟨n, h2, h24, hsz, gt, gb, hz, eT, eB, t0, tB, bB⟩ (fun n' e' h' => ?_) hr)
  have en : n' = n := ((nI_eq (by omega) (by omega)).mp (e'.symm.trans hsz'))
  subst en
  exact ⟨hg, by rw [← eB']; exact e⟩
theorem s_findShare_38 {T B : Int} {d : Int32} (P : Pt 38 (S, F, J, R, nn) T B) (hd : 1 ≤ d.toInt ∧ d.toInt < 1073741824) {M : Nat} (hM : M < 2 ^ 600) (hM0 : 0 < M) (hBM : B.toNat ∣ M) (hdM : d.toInt.toNat ∣ M)
    (hK : ∀ X' f, Fr 38 (S, F, J, R, nn) X' → Pt 38 X' (f * T) (f * B) → (f * B).toNat ∣ M → (∀ n, xI X' 38 3 = nI n → n ≤ 24 → lg (xI X' 41) n ∧ f * B = d.toInt * lv (xI X' 41) n) → K none X') : w_X7_findShare tb0 [vR (some 38), vI d] (S, F, J, R, nn) K KX := by
  refine i_X7_findShare_m38 ?_
  have B0 : 0 < B := by obtain ⟨n, h2, h24, hsz, gt, gb, hz, eT, eB, t0, tB, bB⟩ := P; omega
  have hFr0 : ∀ g, Fr 38 (S, F, J, R, nn) (S, u1 F 41 g, J, R, nn) := fun g => ⟨rfl, rfl, rfl, rfl, fun i a b c d => by
    show u1 F 41 g i = F i
    rw [u1_ne _ _ d]⟩
  refine s_div_38 P (by omega) (fun g r P1 hg hr => rI_in ⟨fun c => e_X7_findShare_22_m38 ?_, fun c => hK _ 1 (hFr0 g) (by rw [Int.one_mul, Int.one_mul]; exact P1) (by rw [Int.one_mul]; exact hBM) (fun n e h => ?_)⟩)
  · obtain ⟨n, h2, h24, hsz, -⟩ := id P
    have hq := (hg n hsz h24).2
    have hr0 : 0 < r.toInt := by
      rcases Int.lt_or_eq_of_le hr.1 with q | q
      · exact q
      · exact absurd (Int32.toInt_inj.mp (q.symm.trans z32.symm)) c
    have hrm : r.toInt.toNat = B.toNat % d.toInt.toNat := by
      have e1 : B % d.toInt = r.toInt := by
        rw [hq, Int.add_comm, Int.add_mul_emod_self_left, Int.emod_eq_of_lt hr.1 hr.2]
      have e2 : ((B.toNat % d.toInt.toNat : Nat) : Int) = B % d.toInt := by
        rw [Int.natCast_emod, Int.toNat_of_nonneg (by omega), Int.toNat_of_nonneg (by omega)]
      omega
    obtain ⟨f1, f2, f3, f4⟩ := gcd_fac (A := d.toInt.toNat) (b := B.toNat) (by omega)
    rw [← hrm] at f1 f2 f3 f4
    have hdn : d = nI d.toInt.toNat := nI_ofI (by omega)
    have hrn : r = nI r.toInt.toNat := nI_ofI hr.1
    have hg0 : 0 < Nat.gcd d.toInt.toNat r.toInt.toNat := Nat.gcd_pos_of_pos_left _ (by omega)
    have hgl : Nat.gcd d.toInt.toNat r.toInt.toNat ≤ d.toInt.toNat := Nat.le_of_dvd (by omega) (Nat.gcd_dvd_left _ _)
    show w_X7_commonDivisor tb0 [vI d, vI r] (S, u1 F 41 g, J, R, nn) _ KX
    have hcd : ∀ {K' : Option AV → AX → Prop}, K' (some (vI (nI (Nat.gcd d.toInt.toNat r.toInt.toNat)))) (S, u1 F 41 g, J, R, nn) → w_X7_commonDivisor tb0 [vI d, vI r] (S, u1 F 41 g, J, R, nn) K' KX := fun hk => by
      rw [hdn, hrn]
      exact s_commonDivisor (by omega) (by omega) (by omega) hk
    refine hcd (rI_in ⟨fun c1 => e_X7_findShare_38_m38 ⟨nI_ne0 hg0 (by omega), ?_⟩, fun c1 => absurd (nI_le (a := 1) hg0 (by omega)) c1⟩)
    refine e_X7_findShare_41_m38 ?_
    have ef : d / nI (Nat.gcd d.toInt.toNat r.toInt.toNat) = nI (d.toInt.toNat / Nat.gcd d.toInt.toNat r.toInt.toNat) := by
      conv => lhs; rw [hdn]
      rw [nI_toInt (by omega), Int.toNat_natCast]
      exact pk_div (by omega) hg0 (by omega)
    rw [ef]
    have hfi : (nI (d.toInt.toNat / Nat.gcd d.toInt.toNat r.toInt.toNat)).toInt = ((d.toInt.toNat / Nat.gcd d.toInt.toNat r.toInt.toNat : Nat) : Int) := nI_toInt (by omega)
    have hfB : (((d.toInt.toNat / Nat.gcd d.toInt.toNat r.toInt.toNat : Nat) : Int) * B).toNat = Nat.lcm B.toNat d.toInt.toNat := by
      rw [← f2]
      have : ((d.toInt.toNat / Nat.gcd d.toInt.toNat r.toInt.toNat : Nat) : Int) * B = ((B.toNat * (d.toInt.toNat / Nat.gcd d.toInt.toNat r.toInt.toNat) : Nat) : Int) := by
        rw [Int.natCast_mul, Int.toNat_of_nonneg (by omega : 0 ≤ B), Int.mul_comm]
      rw [this, Int.toNat_natCast]
    have hlcm : Nat.lcm B.toNat d.toInt.toNat ∣ M := Nat.lcm_dvd hBM hdM
    have hfB0 : 0 < ((d.toInt.toNat / Nat.gcd d.toInt.toNat r.toInt.toNat : Nat) : Int) * B := Int.mul_pos (by omega) B0
    have hle : Nat.lcm B.toNat d.toInt.toNat ≤ M := Nat.le_of_dvd hM0 hlcm
    have h600 : (2 : Int) ^ 600 = ((2 ^ 600 : Nat) : Int) := by decide +kernel
    have hlt600 : ((d.toInt.toNat / Nat.gcd d.toInt.toNat r.toInt.toNat : Nat) : Int) * B < 2 ^ 600 := by rw [h600]; omega
    refine s_widen_38 P1 (by rw [hfi]; omega) (by rw [hfi]; exact hlt600) (fun X' hF P2 => rV_in ?_)
    obtain ⟨S', F', J', R', nn'⟩ := X'
    rw [hfi] at P2
    refine s_div_38 P2 (by omega) (fun g2 r2 P3 hg2 hr2 => rI_in (hK _ _ ((hFr0 g).trans (hF.trans ?_)) P3 (by rw [hfB]; exact hlcm) (fun n e h => ?_)))
    · exact ⟨rfl, rfl, rfl, rfl, fun i a b c d => by
        show u1 F' 41 g2 i = F' i
        rw [u1_ne _ _ d]⟩
    · have e' : F' 38 3 = nI n := e
      obtain ⟨q1, q2⟩ := hg2 n e' h
      refine ⟨q1, ?_⟩
      show _ = d.toInt * lv g2 n
      have hdv : d.toInt ∣ ((d.toInt.toNat / Nat.gcd d.toInt.toNat r.toInt.toNat : Nat) : Int) * B := by
        have h9 : ((d.toInt.toNat : Nat) : Int) ∣ ((B.toNat * (d.toInt.toNat / Nat.gcd d.toInt.toNat r.toInt.toNat) : Nat) : Int) := Int.natCast_dvd_natCast.mpr f1
        rw [Int.natCast_mul, Int.toNat_of_nonneg (by omega : 0 ≤ B), Int.toNat_of_nonneg (by omega : 0 ≤ d.toInt), Int.mul_comm] at h9
        exact h9
      have hr3 : r2.toInt = 0 := by
        have h10 : d.toInt ∣ r2.toInt := by
          have := (Int.dvd_add_right (Int.dvd_mul_right d.toInt (lv g2 n))).mp (q2 ▸ hdv)
          exact this
        exact dvd_zero hr2.1 hr2.2 h10
      omega
  · obtain ⟨q1, q2⟩ := hg n e h
    refine ⟨q1, ?_⟩
    have : r.toInt = 0 := by rw [c]; rfl
    show 1 * B = d.toInt * lv g n
    omega
set_option maxHeartbeats 4000000 in
theorem s_add_38 {T B : Int} {a d : Int32} (P : Pt 38 (S, F, J, R, nn) T B) (ha : 0 ≤ a.toInt) (hd : 1 ≤ d.toInt ∧ d.toInt < 1073741824) {M : Nat} (hM : M < 2 ^ 600) (hM0 : 0 < M) (hBM : B.toNat ∣ M) (hdM : d.toInt.toNat ∣ M)
    (hK : ∀ X' (due : Int32) T1 B1, Fr 38 (S, F, J, R, nn) X' → Pt 38 X' T1 B1 → B1.toNat ∣ M → T1 * (B * d.toInt) = (T * d.toInt + a.toInt * B - due.toInt * (B * d.toInt)) * B1 → 0 ≤ due.toInt → K (some (vI due)) X') : w_X7_add tb0 [vR (some 38), vI a, vI d] (S, F, J, R, nn) K KX := by
  have e1 : (1 : Int32).toInt = 1 := rfl
  have dne : ¬ d = 0 := fun z => by rw [z] at hd; exact absurd hd.1 (by decide)
  have hw := n_div (x := a) (y := d) ha (by omega)
  have hrr := n_rem (x := a) (y := d) ha (by omega)
  have hdm := Int.mul_ediv_add_emod a.toInt d.toInt
  have hr0 := Int.emod_nonneg a.toInt (show d.toInt ≠ 0 by omega)
  have hr1 := Int.emod_lt_of_pos a.toInt (show 0 < d.toInt by omega)
  have hw0 : 0 ≤ a.toInt / d.toInt := Int.ediv_nonneg ha (by omega)
  have hwl : a.toInt / d.toInt ≤ a.toInt := Int.ediv_le_self _ ha
  refine i_X7_add_m38 ⟨fun _ => e_X7_add_7_m38 ⟨dne, dne, fun c => e_X7_add_23_m38 ?_, fun c => hK _ _ T B ⟨rfl, rfl, rfl, rfl, fun _ _ _ _ _ => rfl⟩ P hBM ?_ ?_⟩, fun c => absurd (Int32.le_iff_toInt_le.mpr (by rw [e1]; exact hd.1)) c⟩
  · refine s_findShare_38 P hd hM hM0 hBM hdM (fun X' f hF P1 hB1 hsh => rV_in ?_)
    obtain ⟨S', F', J', R', nn'⟩ := X'
    obtain ⟨n, h2, h24, hsz, gt, gb, hz, eT, eB, t0, tB, bB⟩ := id P1
    obtain ⟨m, rfl⟩ : ∃ m, n = m + 1 := ⟨n - 1, by omega⟩
    simp only [Nat.add_sub_cancel] at bB
    have hsz' : F' 38 3 = nI (m + 1) := hsz
    have eT' : lv (F' 39) (m + 1) = f * T := eT
    have eB' : lv (F' 40) (m + 1) = f * B := eB
    obtain ⟨gs, es⟩ := hsh (m + 1) hsz h24
    have es' : f * B = d.toInt * lv (F' 41) (m + 1) := es
    have gs' : lg (F' 41) (m + 1) := gs
    have s0 := (lv_rng gs').1
    have hB1p : 0 < f * B := by omega
    have hrs : (a.toInt % d.toInt) * lv (F' 41) (m + 1) < f * B := by
      rw [es']
      have hs1 : 0 < lv (F' 41) (m + 1) := by
        rcases Int.lt_or_eq_of_le s0 with q | q
        · exact q
        · rw [← q, Int.mul_zero] at es'; omega
      exact Int.mul_lt_mul_of_pos_right hr1 hs1
    have hrs0 : 0 ≤ (a.toInt % d.toInt) * lv (F' 41) (m + 1) := Int.mul_nonneg hr0 s0
    have hpw : (1073741824 : Int) ^ (m + 1) = (1073741824 : Int) ^ m * 1073741824 := Int.pow_succ _ _
    show w_X7_addTimes tb0 [vR (some 39), vR (some 41), vI (F' 38 3), vI (a - a / d * d)] (S', F', J', R', nn') _ KX
    rw [hsz']
    refine s_addTimes (la := 24) (lb := 24) (by decide) (by decide) (fun I => rfl) (fun I => rfl) ⟨h24, by decide⟩ ⟨h24, by decide⟩ (fun i hi => gt i (by omega)) gs' (by rw [hrr, eT']; constructor <;> omega) (fun g hg e k => rV_in ?_)
    rw [hrr, eT'] at e
    have gg : lg g 24 := lg_app hg gt k
    have hF1 : ∀ g', Fr 38 (S', F', J', R', nn') (S', u1 F' 39 g', J', R', nn') := fun g' => ⟨rfl, rfl, rfl, rfl, fun i a b c d => by
      show u1 F' 39 g' i = F' i
      rw [u1_ne _ _ b]⟩
    show w_X7_compare tb0 [vR (some 39), vR (some 40), vI (F' 38 3)] (S', u1 F' 39 g, J', R', nn') _ KX
    rw [hsz']
    refine s_compare (F := u1 F' 39 g) (la := 24) (lb := 24) (fun I => rfl) (fun I => rfl) ⟨h24, by decide⟩ ⟨h24, by decide⟩ hg (fun i hi => gb i (by omega)) (fun r hr => rI_in ⟨fun c1 => e_X7_add_65_m38 ?_, fun c1 => ?_⟩)
    · have hge : f * B ≤ lv g (m + 1) := by
        have hr' : (r = -1 ∧ lv g (m + 1) < lv (F' 40) (m + 1)) ∨ (r = 0 ∧ lv g (m + 1) = lv (F' 40) (m + 1)) ∨ (r = 1 ∧ lv (F' 40) (m + 1) < lv g (m + 1)) := hr
        rcases hr' with ⟨q, q'⟩ | ⟨q, q'⟩ | ⟨q, q'⟩
        · rw [q] at c1; exact absurd c1 (by decide)
        · omega
        · omega
      refine i_X7_subtract ?_
      show w_X7_addTimes tb0 [vR (some 39), vR (some 40), vI (F' 38 3), vI (-1)] (S', u1 F' 39 g, J', R', nn') _ KX
      rw [hsz']
      have em : (-1 : Int32).toInt = -1 := by decide
      refine s_addTimes (F := u1 F' 39 g) (la := 24) (lb := 24) (by decide) (by decide) (fun I => rfl) (fun I => rfl) ⟨h24, by decide⟩ ⟨h24, by decide⟩ hg (fun i hi => gb i (by omega)) ?_ (fun g3 hg3 e3 k3 => rV_in (rV_in (hK _ _ (lv g3 (m + 1)) (f * B) (hF.trans ((hF1 g).trans ?_)) ⟨m + 1, h2, h24, hsz, lg_app hg3 gg k3, gb, fun i a b => ⟨(k3 i a).trans ((k i a).trans (hz i a b).1), (hz i a b).2⟩, rfl, eB, ?_, ?_, by simp only [Nat.add_sub_cancel]; exact bB⟩ hB1 ?_ ?_)))
      · show 0 ≤ lv g (m + 1) + (-1 : Int32).toInt * lv (F' 40) (m + 1) ∧ lv g (m + 1) + (-1 : Int32).toInt * lv (F' 40) (m + 1) < _
        rw [em, eB']; omega
      · exact ⟨rfl, rfl, rfl, rfl, fun i a b c d => by
          show u1 (u1 F' 39 g) 39 g3 i = u1 F' 39 g i
          rw [u1_ne _ _ b]⟩
      · exact (lv_rng hg3).1
      · have e3' : lv g3 (m + 1) = lv g (m + 1) + (-1 : Int32).toInt * lv (F' 40) (m + 1) := e3
        rw [em, eB'] at e3'; omega
      · have e3' : lv g3 (m + 1) = lv g (m + 1) + (-1 : Int32).toInt * lv (F' 40) (m + 1) := e3
        rw [em, eB'] at e3'
        have hdue : (a / d + 1).toInt = a.toInt / d.toInt + 1 := by
          rw [n_add] <;> rw [hw] <;> (have := n_rng a; have e9 : (1 : Int32).toInt = 1 := rfl; have : a.toInt / d.toInt ≤ a.toInt % d.toInt + a.toInt := by omega
                                      ) <;> (have h12 : d.toInt * (a.toInt / d.toInt) < 2147483647 := by
                                                have hrp : 0 < a.toInt % d.toInt := by
                                                  rcases Int.lt_or_eq_of_le hr0 with q | q
                                                  · exact q
                                                  · exact absurd (Int32.toInt_inj.mp (hrr.trans (q.symm.trans z32.symm))) c
                                                omega) <;> (have h13 : 1 * (a.toInt / d.toInt) ≤ d.toInt * (a.toInt / d.toInt) := Int.mul_le_mul_of_nonneg_right (by omega) hw0) <;> omega
        rw [hdue]
        exact add_id (w := a.toInt / d.toInt) (r := a.toInt % d.toInt) (e := 1) (f := f) (sh := lv (F' 41) (m + 1)) (by rw [Int.mul_comm]; omega) rfl (by omega) es'
      · have hdue : 0 ≤ (a / d + 1).toInt := by
          have h12 : (a / d + 1).toInt = a.toInt / d.toInt + 1 := by
            have hrp : 0 < a.toInt % d.toInt := by
              rcases Int.lt_or_eq_of_le hr0 with q | q
              · exact q
              · exact absurd (Int32.toInt_inj.mp (hrr.trans (q.symm.trans z32.symm))) c
            have h13 : 1 * (a.toInt / d.toInt) ≤ d.toInt * (a.toInt / d.toInt) := Int.mul_le_mul_of_nonneg_right (by omega) hw0
            have h14 := n_rng a
            rw [n_add] <;> rw [hw, e1] <;> omega
          omega
        exact hdue
    · have hlt : lv g (m + 1) < f * B := by
        have hr' : (r = -1 ∧ lv g (m + 1) < lv (F' 40) (m + 1)) ∨ (r = 0 ∧ lv g (m + 1) = lv (F' 40) (m + 1)) ∨ (r = 1 ∧ lv (F' 40) (m + 1) < lv g (m + 1)) := hr
        rcases hr' with ⟨q, q'⟩ | ⟨q, q'⟩ | ⟨q, q'⟩
        · omega
        · rw [q] at c1; exact absurd (by decide) c1
        · rw [q] at c1; exact absurd (by decide) c1
      refine hK _ _ (lv g (m + 1)) (f * B) (hF.trans (hF1 g)) ⟨m + 1, h2, h24, hsz, gg, gb, fun i a b => ⟨(k i a).trans (hz i a b).1, (hz i a b).2⟩, rfl, eB, (lv_rng hg).1, hlt, by simp only [Nat.add_sub_cancel]; exact bB⟩ hB1 ?_ (by rw [hw]; exact hw0)
      rw [hw]
      have := add_id (T := T) (B := B) (d := d.toInt) (n := a.toInt) (w := a.toInt / d.toInt) (r := a.toInt % d.toInt) (e := 0) (f := f) (sh := lv (F' 41) (m + 1)) (T1 := lv g (m + 1)) (B1 := f * B) (by rw [Int.mul_comm]; omega) rfl (by omega) es'
      rw [Int.add_zero] at this
      exact this
  · rw [hw]
    have hz : a.toInt % d.toInt = 0 := by rw [← hrr, c]; rfl
    have h5 : a.toInt = d.toInt * (a.toInt / d.toInt) := by omega
    have h6 : T * d.toInt + a.toInt * B - a.toInt / d.toInt * (B * d.toInt) = T * d.toInt := by
      have : a.toInt * B = a.toInt / d.toInt * (B * d.toInt) := by
        conv => lhs; rw [h5]
        rw [Int.mul_comm d.toInt, Int.mul_assoc, Int.mul_comm d.toInt B]
      omega
    rw [h6, Int.mul_assoc, Int.mul_comm d.toInt B]
  · rw [hw]; exact hw0
end PartAdd
