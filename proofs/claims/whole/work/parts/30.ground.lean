/-! the start: the ground out of what the Statement gives -/
theorem st_row {args : Array Value} {s : State} {N : String} {vals : Nat → Int32}
    (hl : (Cond.laysStatic "FareClock" N "[I").before args s = true) (hini : (Cond.initialized "FareClock").before args s = true)
    (hex : (Cond.exactly (.static "FareClock" N "[I") "[I").before args s = true) (harr : (Cond.arrayOf (.static "FareClock" N "[I") .int).before args s = true)
    (hlen : (Cond.eq (.length (.static "FareClock" N "[I")) (.int 15)).before args s = true)
    (hval : ∀ j, j < 15 → (Cond.eq (.elem (.static "FareClock" N "[I") (.int (Int32.ofNat j))) (.int (vals j))).before args s = true) :
    ∃ (a : Nat) (cell : Cell), a < s.heap.size ∧ s.heap[a]? = some cell ∧ s.isArrayOf cell .int ∧ cell.vm ≠ .unknown ∧ s.vm.findClass "[I" = some cell.cls ∧ cell.slots.size = 15 ∧ (∀ j, j < 15 → cell.slots[j]? = some (.int (vals j))) ∧
      va_Z "FareClock" N "[I" (.ref a) (fun q => s.heap.size ≤ q) s s.heap := by
  obtain ⟨a, c, cell, k, ha, hc, hcell, hk, hst, hcls, -⟩ := Cond.exactly_spec hex
  obtain ⟨h1, h2⟩ := Cond.arrayOf_spec harr ha hcell
  have hat : s.arrayAt? a = some cell := by
    obtain ⟨-, k9, hk9, comp, hkind⟩ := h1
    simp [State.arrayAt?, hcell, hk9, h2, hst, hkind]
  have hv : ∀ j, j < 15 → cell.slots[j]? = some (.int (vals j)) := by
    intro j hj
    have h := hval j hj
    have e1 : (Int32.ofNat j).toNatClampNeg = j := by
      have : ∀ j, j < 15 → (Int32.ofNat j).toNatClampNeg = j := by decide
      exact this j hj
    have e2 : ¬ (Int32.ofNat j) < 0 := by
      have : ∀ j, j < 15 → ¬ (Int32.ofNat j) < 0 := by decide
      exact this j hj
    have e3 : (Term.elem (.static "FareClock" N "[I") (.int (Int32.ofNat j))).eval args s none [] s = cell.slots[j]? := by
      rw [Term.eval, ha]
      simp [Term.eval, hat, e1, e2]
    have e4 : (Term.int (vals j)).eval args s none [] s = some (.int (vals j)) := rfl
    simp only [Cond.before, Cond.holds, Cond.value, e3, e4] at h
    cases hs : cell.slots[j]? with
    | none => rw [hs] at h; simp at h
    | some v => rw [hs] at h; cases v <;> simp at h <;> first | rw [h] | skip
  have hsz : cell.slots.size = 15 := by
    have h := hlen
    by_cases hb : cell.slots.size < 2 ^ 31
    · have e3 : (Term.length (.static "FareClock" N "[I")).eval args s none [] s = some (.int cell.slots.size.toInt32) := by
        rw [Term.eval, ha]
        simp [hat, hb]
      have e4 : (Term.int 15).eval args s none [] s = some (.int 15) := rfl
      have h5 := Cond.eq_ints e3 e4
      simp only [Cond.before, Cond.holds, h5, beq_iff_eq, Option.some.injEq, decide_eq_true_eq] at h
      have := congrArg Int32.toInt h
      rw [show cell.slots.size.toInt32 = Int32.ofNat cell.slots.size from rfl, Int32.toInt_ofNat_of_lt hb] at this
      have e : (15 : Int32).toInt = 15 := rfl
      omega
    · have e3 : (Term.length (.static "FareClock" N "[I")).eval args s none [] s = none := by
        rw [Term.eval, ha]
        simp [hat, hb]
      simp [Cond.before, Cond.holds, Cond.value, e3] at h
  exact ⟨a, cell, (Array.getElem?_eq_some_iff.mp hcell).1, hcell, h1, h2, by rw [hcls]; exact hc, hsz, hv, va_Zof hl hini ha (fun a h q => by omega)⟩
def aFst : Nat → Int32 := fun j => ([300, 1, 20, 100000, 30, 5000, 1320, 360, 30, 10000000, 50000, 0, 1, 4000, 100] : List Int32).getD j 0
def aLst : Nat → Int32 := fun j => ([0, 1, 0, 10000, 1, 0, 0, 0, 0, 0, 10000, 0, 0, 0, 0] : List Int32).getD j 0
def aMst : Nat → Int32 := fun j => ([10000, 50, 10000, 1000000, 600, 60000, 1439, 1439, 10000, 100000000, 1000000, 99, 99, 1000000, 10000] : List Int32).getD j 0
def inTb (w : Cond) : Bool := decide (w ∈ lw_tbl)
def inFl (w : Cond) : Bool := decide (w ∈ flatC (Jvm.Cond.and given_1 narrow_1))
def rowsB (N : String) (vals : Nat → Int32) : Bool := inTb (Cond.laysStatic "FareClock" N "[I") && inFl (Cond.exactly (.static "FareClock" N "[I") "[I") && inFl (Cond.arrayOf (.static "FareClock" N "[I") .int) && inFl (Cond.eq (.length (.static "FareClock" N "[I")) (.int 15)) &&
  (List.range 15).all (fun j => inFl (Cond.eq (.elem (.static "FareClock" N "[I") (.int (Int32.ofNat j))) (.int (vals j))))
theorem rb1 : rowsB "NUMBER_AT_FIRST" aFst = true := by decide +kernel
theorem rb2 : rowsB "NUMBER_LEAST" aLst = true := by decide +kernel
theorem rb3 : rowsB "NUMBER_MOST" aMst = true := by decide +kernel
theorem wd1 : (lw_casts.all (fun q => inTb (.castable q.1 q.2)) && lw_nests.all (fun q => inTb (.methodLinkNest q.1 q.2 yX11_isFrom "FareClock")) && inTb (.fieldLinkNest RX1 9 "FareClock" "NUMBER_AT_FIRST" "[I" "FareClock") && inTb (.arrayOver (.object RX1)) && lw_decls.all (fun y => inTb (.declares (Bundle.init0 y)))) = true := by decide +kernel
theorem wd2 : lw_ncs.all (fun q => inFl (.not (.castable q.1 q.2))) = true := by decide +kernel
theorem wd3 : (inTb (.initialized "FareClock") && inTb (.arrayClass .int) && inTb (.arrayClass .long) && inTb (.arrayClass .short) && inTb (.arrayClass .boolean)) = true := by decide +kernel
theorem wd4 : (inTb (.laysStatic Bundle.tN "UNASSIGNED_STACK" Bundle.steD) && inTb (.laysStatic Bundle.tN "SUPPRESSED_SENTINEL" Bundle.listD) && inTb (.initialized Bundle.tN) && inFl (.isRef (.static Bundle.tN "UNASSIGNED_STACK" Bundle.steD)) && inFl (.isRef (.static Bundle.tN "SUPPRESSED_SENTINEL" Bundle.listD))) = true := by decide +kernel
theorem wd5 : (List.range 13).all (fun ci => gw (.instantiable (cNm ci) (fN ci))) = true := by decide +kernel
def g0L (L : Nat) : Nat → Nat := fun i => if i = 0 then L else 15
def g0V (xs : Nat → Int32) : Nat → Nat → Int32 := fun i => if i = 0 then xs else if i = 1 then aFst else if i = 2 then aLst else aMst
section Ground
variable {args : Array Value} {s : State}
theorem inTb_use (hts : ∀ w ∈ lw_tbl, w.before args s = true) {w : Cond} (h : inTb w = true) : w.before args s = true := hts w (by simpa [inTb] using h)
theorem inFl_use (hgv : (Jvm.Cond.and given_1 narrow_1).before args s = true) {w : Cond} (h : inFl w = true) : w.before args s = true := flat_of_before _ hgv w (by simpa [inFl] using h)
theorem row_of (hts : ∀ w ∈ lw_tbl, w.before args s = true) (hgv : (Jvm.Cond.and given_1 narrow_1).before args s = true) {N : String} {vals : Nat → Int32} (h : rowsB N vals = true) :
    ∃ (a : Nat) (cell : Cell), a < s.heap.size ∧ s.heap[a]? = some cell ∧ s.isArrayOf cell .int ∧ cell.vm ≠ .unknown ∧ s.vm.findClass "[I" = some cell.cls ∧ cell.slots.size = 15 ∧ (∀ j, j < 15 → cell.slots[j]? = some (.int (vals j))) ∧
      va_Z "FareClock" N "[I" (.ref a) (fun q => s.heap.size ≤ q) s s.heap := by
  simp only [rowsB, Bool.and_eq_true] at h
  obtain ⟨⟨⟨⟨h1, h2⟩, h3⟩, h4⟩, h5⟩ := h
  have h6 := wd3
  simp only [Bool.and_eq_true] at h6
  exact st_row (inTb_use hts h1) (inTb_use hts h6.1.1.1.1) (inFl_use hgv h2) (inFl_use hgv h3) (inFl_use hgv h4) (fun j hj => inFl_use hgv (List.all_eq_true.mp h5 j (List.mem_range.mpr hj)))
theorem arr_of {ty : FieldType} (h : (Cond.arrayClass ty).before args s = true) (hp : ∀ C, ty ≠ .object C) : ∃ cA, ArrOfT s cA ty ∧ va_RA s cA ty := by
  obtain ⟨cA, k, comp, h1, h2, h3⟩ := Cond.arrayClass_spec h
  refine ⟨cA, fun n z => ⟨fun k h => (by cases h), k, h2, comp, h3⟩, ?_⟩
  cases ty with
  | object C => exact (hp C rfl).elim
  | _ => exact h1
theorem arr_ofO {C : String} (h : (Cond.arrayOver (.object C)).before args s = true) : ∃ cA, ArrOfT s cA (.object C) ∧ va_RA s cA (.object C) := by
  obtain ⟨comp, cA, k, h1, -, h2, h3, h4⟩ := Cond.arrayOver_spec h
  exact ⟨cA, fun n z => ⟨fun k h => (by cases h), k, h2, comp, h3⟩, k, comp, h2, h3, h1, h4⟩
theorem ground {b L : Nat} {xs : Nat → Int32} (hts : ∀ w ∈ lw_tbl, w.before args s = true) (hX : va_X b L xs s s.heap) (hbl : b < s.heap.size) (hgv : (Jvm.Cond.and given_1 narrow_1).before args s = true) :
    ∃ (D : va_G) (A : Nat → ClassId) (S : Nat → Nat), S 0 = b ∧ (∀ i, i < 4 → S i < s.heap.size) ∧ ∀ tb, Gk (D, A, s.heap.size, S, g0L L, g0V xs, s.heap, tb) s := by
  obtain ⟨scr, x1, x2, x3, x4, x5⟩ := hX
  obtain ⟨a1, c1, b1, p1, q1, r1, f1, z1, v1, k1⟩ := row_of hts hgv rb1
  obtain ⟨a2, c2, b2, p2, q2, r2, f2, z2, v2, k2⟩ := row_of hts hgv rb2
  obtain ⟨a3, c3, b3, p3, q3, r3, f3, z3, v3, k3⟩ := row_of hts hgv rb3
  have w3 := wd3
  have w1 := wd1
  have w4 := wd4
  simp only [Bool.and_eq_true] at w1 w3 w4
  obtain ⟨A1, hA1⟩ := arr_of (inTb_use hts w3.1.1.1.2) (fun C h => by cases h)
  obtain ⟨A2, hA2⟩ := arr_of (inTb_use hts w3.1.1.2) (fun C h => by cases h)
  obtain ⟨A3, hA3⟩ := arr_of (inTb_use hts w3.1.2) (fun C h => by cases h)
  obtain ⟨A4, hA4⟩ := arr_of (inTb_use hts w3.2) (fun C h => by cases h)
  obtain ⟨A5, hA5⟩ := arr_ofO (inTb_use hts w1.1.2)
  have hgw : ∀ w, gw w = true → w.before args s = true := fun w h => by
    simp only [gw, Bool.and_eq_true, decide_eq_true_eq] at h
    exact hts w h.1
  have hcl : ∀ ci, ∃ (cC : ClassId) (iS : Nat → Nat), ci < 13 → u_Kn s (cNm ci) (cTb ci) (fN ci) cC iS := by
    intro ci
    by_cases h : ci < 13
    · obtain ⟨cC, iS, h9⟩ := u_known (C := cNm ci) (T := cTb ci) (N := fN ci) (n := fN ci) (ws := u_ws (cNm ci) (cTb ci) (fN ci)) (fun w hw => hgw w (cls_in h w hw)) (fun _ h => h) (hgw _ (List.all_eq_true.mp wd5 ci (List.mem_range.mpr h)))
      exact ⟨cC, iS, fun _ => h9⟩
    · exact ⟨0, fun _ => 0, fun q => (h q).elim⟩
  refine ⟨(fun ci => Classical.choose (hcl ci), fun ci => Classical.choose (Classical.choose_spec (hcl ci))), fun i => if i = 1 then A1 else if i = 2 then A2 else if i = 3 then A3 else if i = 4 then A4 else A5, fun i => if i = 0 then b else if i = 1 then a1 else if i = 2 then a2 else a3, rfl, fun i hi => ?_, fun tb => ?_⟩
  · show (if i = 0 then b else if i = 1 then a1 else if i = 2 then a2 else a3) < _
    repeat' split
    all_goals assumption
  refine ⟨⟨fun ci q hq => ?_, fun k q hq => ?_⟩, fun i hi => ?_, ⟨k1, k2, k3⟩, ⟨?_, ?_⟩, fun q hq => ?_, fun q hq => ?_, ?_, ?_, fun y hy => ?_, fun q hq => ?_⟩
  · have h13 : ci < 13 := by
      have := (List.getElem?_eq_some_iff.mp hq).1
      simpa [cls13] using this
    rw [cls_get h13] at hq
    cases hq
    exact Classical.choose_spec (Classical.choose_spec (hcl ci)) h13
  · match k, hq with
    | 0, hq => cases hq; exact hA1
    | 1, hq => cases hq; exact hA2
    | 2, hq => cases hq; exact hA3
    | 3, hq => cases hq; exact hA4
    | 4, hq => cases hq; exact hA5
    | k + 5, hq => simp [aTys] at hq
  · match i, hi with
    | 0, _ => exact ⟨scr, x1, x2, x3, fun h => absurd h (by decide), x4, x5⟩
    | 1, _ => exact ⟨c1, p1, q1, r1, fun _ => f1, z1, v1⟩
    | 2, _ => exact ⟨c2, p2, q2, r2, fun _ => f2, z2, v2⟩
    | 3, _ => exact ⟨c3, p3, q3, r3, fun _ => f3, z3, v3⟩
    | i + 4, hi => omega
  · exact vx_Zqof (inTb_use hts w4.1.1.1.1) (inTb_use hts w4.1.1.2) (inFl_use hgv w4.1.2) (fun a h q => absurd (show s.heap.size ≤ a from q) (Nat.not_le.mpr h))
  · exact vx_Zqof (inTb_use hts w4.1.1.1.2) (inTb_use hts w4.1.1.2) (inFl_use hgv w4.2) (fun a h q => absurd (show s.heap.size ≤ a from q) (Nat.not_le.mpr h))
  · exact va_Nw.of rfl (inTb_use hts (List.all_eq_true.mp w1.1.1.1.1 q hq))
  · exact va_Nw.of rfl (inTb_use hts (List.all_eq_true.mp w1.1.1.1.2 q hq))
  · exact va_Nw.of rfl (inTb_use hts w1.1.1.2)
  · exact va_AO.of (A := args) (inTb_use hts w1.1.2)
  · exact va_Nw.of rfl (inTb_use hts (List.all_eq_true.mp w1.2 y hy))
  · exact va_Nc.of (inFl_use hgv (List.all_eq_true.mp wd2 q hq))
end Ground
