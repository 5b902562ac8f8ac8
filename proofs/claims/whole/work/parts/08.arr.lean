/-! soundness of arrays, makings, static rows -/
theorem w_arrI : gw (Cond.arrayClass .int) = true := by decide +kernel
theorem w_arrL : gw (Cond.arrayClass .long) = true := by decide +kernel
theorem w_arrS : gw (Cond.arrayClass .short) = true := by decide +kernel
theorem w_arrZ : gw (Cond.arrayClass .boolean) = true := by decide +kernel
def ftyK (t : FieldType) : Bool := match t with
  | .int | .boolean | .long | .object _ | .array _ => true
  | _ => false
theorem fty_all : (List.range 13).all (fun ci => (List.range (fN ci)).all (fun j => ftyK (fty ci j))) = true := by decide +kernel
theorem fty_some {ci j : Nat} (h13 : ci < 13) (hj : j < fN ci) : fty ci j = .int ∨ fty ci j = .boolean ∨ fty ci j = .long ∨ (∃ a, fty ci j = .object a) ∨ ∃ a, fty ci j = .array a := by
  have h := List.all_eq_true.mp (List.all_eq_true.mp fty_all ci (List.mem_range.mpr h13)) j (List.mem_range.mpr hj)
  unfold ftyK at h
  split at h
  · rename_i e; exact Or.inl e
  · rename_i e; exact Or.inr (Or.inl e)
  · rename_i e; exact Or.inr (Or.inr (Or.inl e))
  · rename_i e; exact Or.inr (Or.inr (Or.inr (Or.inl ⟨_, e⟩)))
  · rename_i e; exact Or.inr (Or.inr (Or.inr (Or.inr ⟨_, e⟩)))
  · cases h
section Arr
variable {p : Program} {l : Launch} {e : Env} {R : Room} {s : State} {m : MethodId} {args : Array Value} {below : List Frame} {meth : Method} {c : Code} {H : Heap} {locs : List Loc} {cells slots : Nat} {Q : State → Prop}
variable {cc : ByteArray} {pc : Nat} {ls : Array Slot} {rest : List Value} {G : GX} {M : MT} {own : String} {ini : Bool} {nL : Nat} {X : AX} {i kk n : Nat}
theorem aTys_get {kk : Nat} (h0 : 0 < kk) (h6 : kk < 6) : (aTys G)[kk - 1]? = some (gA G kk, aty kk) := by
  match kk, h0, h6 with
  | 1, _, _ => rfl
  | 2, _, _ => rfl
  | 3, _, _ => rfl
  | 4, _, _ => rfl
  | 5, _, _ => rfl
theorem vm_known {cell : Cell} (h : cell.vm = .none) : cell.vm ≠ .unknown := by rw [h]; exact fun q => by cases q
theorem arr_cell (hG : Gk G s) (hR : Rp G X H) (hs : xS X i = (kk, n)) (h0 : 0 < kk) (h6 : kk < 6) : ∃ cell : Cell, H[ad G i]? = some cell ∧ s.isArrayOf cell (aty kk) ∧ cell.vm ≠ .unknown ∧ cell.slots.size = n ∧ ∀ j, j < n → cell.slots[j]? = some (aval G X kk i j) := by
  rcases Nat.lt_or_ge i 4 with q | q
  · obtain ⟨h1, h2, h3⟩ := hR.2.2.1 i q
    rw [hs] at h1
    obtain ⟨rfl, rfl⟩ : kk = 1 ∧ n = gL G i := by simpa using h1
    obtain ⟨cell, q1, q2, q3, -, q5, q6⟩ := hG.2.1 i q
    refine ⟨cell, ?_, q2, q3, q5, fun j hj => ?_⟩
    · unfold ad
      rw [if_pos q, hR.1.2.2.2 _ h2]; exact q1
    · rw [q6 j hj]
      show some (Value.int (gV G i j)) = some (Value.int (xI X i j))
      rw [h3 j hj]
  · obtain ⟨h1, h2⟩ := hR.arr hs h0 h6 q
    exact ⟨_, h2, (hG.1.2 _ _ (aTys_get h0 h6)).1 n _, vm_known rfl, arrV_size _ _ _, fun j hj => arrV_read _ _ hj⟩
theorem ra_find {U : State} {cA : ClassId} {ty : FieldType} (h : va_RA U cA ty) : U.vm.findClass ("[" ++ ty.toString) = some cA := by
  cases ty with
  | object C => obtain ⟨_, _, _, _, _, h⟩ := h; exact h
  | _ => exact h
theorem asg_self (vm : Vm) (t : ClassId) : vm.assignable t t = true := by
  have h : ∀ n, vm.assignableAux (n + 1) t t = true := fun n => by rw [Vm.assignableAux]; simp
  exact h 255
theorem in_lt {j : Int32} {n : Nat} (h : vp_in j n) : j.toNatClampNeg < n := Nat.not_le.mp fun q => h (Or.inr q)
theorem ald_ok (C : Cx G M own ini p l R s m args meth c cc nL) (hR : Rp G X H) (hs : xS X i = (kk, n)) {j : Int32} (hj : vp_in j n) {ins : Instr} (hi : (kk = 1 ∧ ins = .iaload) ∨ (kk = 2 ∧ ins = .laload) ∨ (kk = 3 ∧ ins = .saload) ∨ (kk = 4 ∧ ins = .baload) ∨ (kk = 5 ∧ ins = .aaload)) (hd : decode cc pc = .ok (ins, 1))
    (k : W p l e R s m args below meth c H locs cells slots Q (F0 m (pc + 1) ls (aval G X kk i j.toNatClampNeg :: rest))) : W p l e R s m args below meth c H locs cells slots Q (F0 m pc ls (.int j :: .ref (ad G i) :: rest)) := by
  obtain ⟨⟨hx, hb, -, -⟩, -, hG, -⟩ := C
  obtain ⟨cell, q1, q2, q3, q4, q5⟩ := arr_cell hG hR hs (by omega) (by omega)
  subst q4
  rcases hi with ⟨rfl, rfl⟩ | ⟨rfl, rfl⟩ | ⟨rfl, rfl⟩ | ⟨rfl, rfl⟩ | ⟨rfl, rfl⟩
  · exact W.iald hx hb q1 q2 q3 hj (q5 _ (in_lt hj)) rfl rfl hd k
  · exact W.lald hx hb q1 q2 q3 hj (q5 _ (in_lt hj)) rfl rfl hd k
  · exact W.sald hx hb q1 q2 q3 hj (q5 _ (in_lt hj)) rfl rfl hd k
  · exact W.zald hx hb q1 q2 q3 hj (q5 _ (in_lt hj)) rfl rfl hd k
  · exact W.aald hx hb q1 q2 rfl q3 hj (q5 _ (in_lt hj)) rfl rfl hd k
theorem len_ok (C : Cx G M own ini p l R s m args meth c cc nL) (hR : Rp G X H) (hs : xS X i = (kk, n)) (h0 : 0 < kk) (h6 : kk < 6) (hd : decode cc pc = .ok (.arraylength, 1))
    (k : W p l e R s m args below meth c H locs cells slots Q (F0 m (pc + 1) ls (.int (Int32.ofNat n) :: rest))) : W p l e R s m args below meth c H locs cells slots Q (F0 m pc ls (.ref (ad G i) :: rest)) := by
  obtain ⟨⟨hx, hb, -, -⟩, -, hG, -⟩ := C
  obtain ⟨cell, q1, q2, q3, q4, q5⟩ := arr_cell hG hR hs h0 h6
  exact W.alen (n := Int32.ofNat n) hx hb q1 q2 (by rw [q4]) rfl rfl hd k
/-- the heap behind a write into a row -/
theorem Rp.putA {X' : AX} {H' : Heap} (hR : Rp G X H) (hs : xS X i = (kk, n)) (h0 : 0 < kk) (h6 : kk < 6) (h4 : 4 ≤ i) (hS : xS X' = xS X) (hN : xN X' = xN X) (ho : ∀ a, a ≠ i → xI X' a = xI X a ∧ xJ X' a = xJ X a ∧ xR X' a = xR X a)
    (hz : H'.size = H.size) (hq : ∀ q, q ≠ ad G i → H'[q]? = H[q]?) {j : Nat} {v : Value} (hc : H'[ad G i]? = some ((arrV (gA G kk) n (aval G X kk i)).setSlot j v)) (hv : ∀ a, updV (aval G X kk i) j v a = aval G X' kk i a) : Rp G X' H' := by
  refine hR.set h4 hS hN ho hz hq ?_ ?_
  · unfold cel
    rw [hS, hs]
    simp only [if_neg (show ¬ kk = 0 by omega), if_pos h6]
    rw [hc, arrV_store]
    congr 2
    funext a; exact hv a
  · intro c2 hc2
    rw [hs] at hc2
    have := congrArg Prod.fst hc2
    simp at this
    omega
theorem lc_add {G : GX} {locs : List Loc} {i j : Nat} (hq : ∀ q ∈ locs, gB G ≤ q.base) (h4 : 4 ≤ i) : ∀ q ∈ locs ++ [⟨ad G i, j⟩], gB G ≤ q.base := by
  intro q hq'
  rcases List.mem_append.mp hq' with h | h
  · exact hq q h
  · rw [List.mem_singleton.mp h]; exact ad_ge h4
theorem astI_ok (C : Cx G M own ini p l R s m args meth c cc nL) (hR : Rp G X H) (hs : xS X i = (1, n)) (h4 : 4 ≤ i) {j v : Int32} (hj : vp_in j n) (hq : ∀ q ∈ locs, gB G ≤ q.base) (hd : decode cc pc = .ok (.iastore, 1))
    (k : ∀ H' locs', Rp G (xS X, u2 (xI X) i j.toNatClampNeg v, xJ X, xR X, xN X) H' → (∀ q ∈ locs', gB G ≤ q.base) → W p l e R s m args below meth c H' locs' cells slots Q (F0 m (pc + 1) ls rest)) : W p l e R s m args below meth c H locs cells slots Q (F0 m pc ls (.int v :: .int j :: .ref (ad G i) :: rest)) := by
  obtain ⟨⟨hx, hb, -, -⟩, -, hG, -⟩ := C
  obtain ⟨h1, h2⟩ := hR.arr hs (by omega) (by omega) h4
  refine W.iast hx hb h2 ((hG.1.2 _ _ (aTys_get (kk := 1) (by omega) (by omega))).1 n _) (fun q => by cases q) (by rw [arrV_size]; exact hj) rfl rfl hd fun H' e1 e2 e3 => k H' _ (hR.putA hs (by omega) (by omega) h4 rfl rfl (fun a ha => ⟨u2_ne _ _ _ ha, rfl, rfl⟩) e2 e3 e1 fun a => ?_) (lc_add hq h4)
  show (if a = j.toNatClampNeg then Value.int v else Value.int (xI X i a)) = Value.int (u2 (xI X) i j.toNatClampNeg v i a)
  rw [u2_at]; split <;> rfl
theorem astL_ok (C : Cx G M own ini p l R s m args meth c cc nL) (hR : Rp G X H) (hs : xS X i = (2, n)) (h4 : 4 ≤ i) {j : Int32} {v : Int64} (hj : vp_in j n) (hq : ∀ q ∈ locs, gB G ≤ q.base) (hd : decode cc pc = .ok (.lastore, 1))
    (k : ∀ H' locs', Rp G (xS X, xI X, u2 (xJ X) i j.toNatClampNeg v, xR X, xN X) H' → (∀ q ∈ locs', gB G ≤ q.base) → W p l e R s m args below meth c H' locs' cells slots Q (F0 m (pc + 1) ls rest)) : W p l e R s m args below meth c H locs cells slots Q (F0 m pc ls (.long v :: .int j :: .ref (ad G i) :: rest)) := by
  obtain ⟨⟨hx, hb, -, -⟩, -, hG, -⟩ := C
  obtain ⟨h1, h2⟩ := hR.arr hs (by omega) (by omega) h4
  refine W.last hx hb h2 ((hG.1.2 _ _ (aTys_get (kk := 2) (by omega) (by omega))).1 n _) (fun q => by cases q) (by rw [arrV_size]; exact hj) rfl rfl hd fun H' e1 e2 e3 => k H' _ (hR.putA hs (by omega) (by omega) h4 rfl rfl (fun a ha => ⟨rfl, u2_ne _ _ _ ha, rfl⟩) e2 e3 e1 fun a => ?_) (lc_add hq h4)
  show (if a = j.toNatClampNeg then Value.long v else Value.long (xJ X i a)) = Value.long (u2 (xJ X) i j.toNatClampNeg v i a)
  rw [u2_at]; split <;> rfl
theorem astS_ok (C : Cx G M own ini p l R s m args meth c cc nL) (hR : Rp G X H) (hs : xS X i = (3, n)) (h4 : 4 ≤ i) {j v : Int32} (hj : vp_in j n) (hq : ∀ q ∈ locs, gB G ≤ q.base) (hd : decode cc pc = .ok (.sastore, 1))
    (k : ∀ H' locs', Rp G (xS X, u2 (xI X) i j.toNatClampNeg (vp_nar .short v), xJ X, xR X, xN X) H' → (∀ q ∈ locs', gB G ≤ q.base) → W p l e R s m args below meth c H' locs' cells slots Q (F0 m (pc + 1) ls rest)) : W p l e R s m args below meth c H locs cells slots Q (F0 m pc ls (.int v :: .int j :: .ref (ad G i) :: rest)) := by
  obtain ⟨⟨hx, hb, -, -⟩, -, hG, -⟩ := C
  obtain ⟨h1, h2⟩ := hR.arr hs (by omega) (by omega) h4
  refine W.sast hx hb h2 ((hG.1.2 _ _ (aTys_get (kk := 3) (by omega) (by omega))).1 n _) (fun q => by cases q) (by rw [arrV_size]; exact hj) rfl rfl hd fun H' e1 e2 e3 => k H' _ (hR.putA hs (by omega) (by omega) h4 rfl rfl (fun a ha => ⟨u2_ne _ _ _ ha, rfl, rfl⟩) e2 e3 e1 fun a => ?_) (lc_add hq h4)
  show (if a = j.toNatClampNeg then narrow .short (.int v) else Value.int (xI X i a)) = Value.int (u2 (xI X) i j.toNatClampNeg (vp_nar .short v) i a)
  rw [u2_at]; split <;> rfl
theorem nar_bool {v : Int32} (h : v = 0 ∨ v = 1) : narrow .boolean (.int v) = .int v := by rcases h with rfl | rfl <;> rfl
theorem astZ_ok (C : Cx G M own ini p l R s m args meth c cc nL) (hR : Rp G X H) (hs : xS X i = (4, n)) (h4 : 4 ≤ i) {j v : Int32} (hj : vp_in j n) (hv : v = 0 ∨ v = 1) (hq : ∀ q ∈ locs, gB G ≤ q.base) (hd : decode cc pc = .ok (.bastore, 1))
    (k : ∀ H' locs', Rp G (xS X, u2 (xI X) i j.toNatClampNeg v, xJ X, xR X, xN X) H' → (∀ q ∈ locs', gB G ≤ q.base) → W p l e R s m args below meth c H' locs' cells slots Q (F0 m (pc + 1) ls rest)) : W p l e R s m args below meth c H locs cells slots Q (F0 m pc ls (.int v :: .int j :: .ref (ad G i) :: rest)) := by
  obtain ⟨⟨hx, hb, -, -⟩, -, hG, -⟩ := C
  obtain ⟨h1, h2⟩ := hR.arr hs (by omega) (by omega) h4
  refine W.zast hx hb h2 ((hG.1.2 _ _ (aTys_get (kk := 4) (by omega) (by omega))).1 n _) (fun q => by cases q) (by rw [arrV_size]; exact hj) rfl rfl hd fun H' e1 e2 e3 => k H' _ (hR.putA hs (by omega) (by omega) h4 rfl rfl (fun a ha => ⟨u2_ne _ _ _ ha, rfl, rfl⟩) e2 e3 e1 fun a => ?_) (lc_add hq h4)
  show (if a = j.toNatClampNeg then narrow .boolean (.int v) else Value.int (xI X i a)) = Value.int (u2 (xI X) i j.toNatClampNeg v i a)
  rw [nar_bool hv, u2_at]; split <;> rfl
theorem astR_ok (C : Cx G M own ini p l R s m args meth c cc nL) (hR : Rp G X H) (hs : xS X i = (5, n)) (h4 : 4 ≤ i) {j : Int32} {q ci fl : Nat} (hsq : xS X q = (ci + 10, fl)) (hci : ci = 0 ∨ ci = 1 ∨ ci = 2 ∨ ci = 3 ∨ ci = 6) (hj : vp_in j n) (hq : ∀ q ∈ locs, gB G ≤ q.base) (hd : decode cc pc = .ok (.aastore, 1))
    (k : ∀ H' locs', Rp G (xS X, xI X, xJ X, u2 (xR X) i j.toNatClampNeg (some q), xN X) H' → (∀ q ∈ locs', gB G ≤ q.base) → W p l e R s m args below meth c H' locs' cells slots Q (F0 m (pc + 1) ls rest)) : W p l e R s m args below meth c H locs cells slots Q (F0 m pc ls (.ref (ad G q) :: .int j :: .ref (ad G i) :: rest)) := by
  obtain ⟨⟨hx, hb, -, -⟩, -, hG, -⟩ := C
  obtain ⟨h1, h2⟩ := hR.arr hs (by omega) (by omega) h4
  obtain ⟨h13, cellV, g1, g2, g3, -⟩ := hR.obj hsq
  have hcls := (hG.1.1 ci _ (cls_get h13)).2
  obtain ⟨kA, comp, k1, k2, k3, -⟩ := (hG.1.2 4 (gA G 5, .object "FareClock$Day") rfl).2
  obtain ⟨kE, hkE, -⟩ := Vm.findClass_spec k3
  obtain ⟨kC, hkC, -⟩ := hcls.2
  have hlt := in_lt hj
  have h0 : ¬ j < 0 := fun q => hj (Or.inl q)
  have hasg : s.vm.assignable ((gD G).1 ci) comp = true := by
    have hw := hG.2.2.2.2.1
    rcases hci with rfl | rfl | rfl | rfl | rfl
    · exact vb_asgC (hw (RX0, RX1) (by decide)) comp _ k3 hcls.1
    · have e : (gD G).1 1 = comp := Option.some.inj (hcls.1.symm.trans k3)
      rw [e]; exact asg_self s.vm comp
    · exact vb_asgC (hw (RX2, RX1) (by decide)) comp _ k3 hcls.1
    · exact vb_asgC (hw (RX3, RX1) (by decide)) comp _ k3 hcls.1
    · exact vb_asgC (hw (RX6, RX1) (by decide)) comp _ k3 hcls.1
  refine W.aast hx hb h2 (fun q h => by cases h) (fun h => by cases h) k1 k2 rfl hkE ⟨h0, by show _ < (arrV _ _ _).slots.size; rw [arrV_size]; exact hlt⟩ g1 (fun q h => by rw [g3] at h; cases h) (by rw [g2]; exact hkC) (by rw [g2]; exact hasg) rfl rfl hd fun H' e1 e2 e3 => k H' _ (hR.putA hs (by omega) (by omega) h4 rfl rfl (fun a ha => ⟨rfl, rfl, u2_ne _ _ _ ha⟩) e2 e3 e1 fun a => ?_) (lc_add hq h4)
  show (if a = j.toNatClampNeg then Value.ref (ad G q) else rv G (xR X i a)) = rv G (u2 (xR X) i j.toNatClampNeg (some q) i a)
  rw [u2_at]; split <;> rfl
theorem u1_ne {β : Type} (f : Nat → β) {i a : Nat} (g : β) (h : a ≠ i) : u1 f i g a = f a := by simp [u1, h]
theorem u1_at {β : Type} (f : Nat → β) (i : Nat) (g : β) : u1 f i g i = g := by simp [u1]
/-- the heap behind a making -/
theorem Rp.made {H' : Heap} (hR : Rp G X H) {sh : Nat × Nat} (h1 : ∀ ci, sh ≠ (ci + 10, 1)) (hT : gT G (xN X) = none) (hz : H'.size = H.size + 1) (hq : ∀ q, q < H.size → H'[q]? = H[q]?) (hc : cel G (alloc X sh) (xN X) H') : Rp G (alloc X sh) H' :=
  hR.push rfl (fun i hi => u1_ne _ _ hi) (fun ci => by show u1 _ _ _ _ ≠ _; rw [u1_at]; exact h1 ci) (fun i hi => ⟨u1_ne _ _ hi, u1_ne _ _ hi, u1_ne _ _ hi⟩) hz hq hc (fun s h => by rw [hT] at h; cases h)
theorem newa_cel {H' : Heap} (hR : Rp G X H) {kk N : Nat} (h0 : 0 < kk) (h6 : kk < 6) (hc : H'[H.size]? = some (arrV (gA G kk) N (fun _ => defaultValue (aty kk)))) : cel G (alloc X (kk, N)) (xN X) H' := by
  unfold cel
  have e : xS (alloc X (kk, N)) (xN X) = (kk, N) := u1_at _ _ _
  rw [e]
  simp only [if_neg (show ¬ kk = 0 by omega), if_pos h6]
  rw [hR.adN, hc]
  congr 2
  funext j
  have e1 : xI (alloc X (kk, N)) (xN X) = fun _ => 0 := u1_at _ _ _
  have e2 : xJ (alloc X (kk, N)) (xN X) = fun _ => 0 := u1_at _ _ _
  have e3 : xR (alloc X (kk, N)) (xN X) = fun _ => none := u1_at _ _ _
  unfold aval
  rw [e1, e2, e3]
  match kk, h0, h6 with
  | 1, _, _ => rfl
  | 2, _, _ => rfl
  | 3, _, _ => rfl
  | 4, _, _ => rfl
  | 5, _, _ => rfl
theorem newa_ok (C : Cx G M own ini p l R s m args meth c cc nL) (hR : Rp G X H) {at_ : ArrayType} {kk : Nat} (hk : akind at_ = kk) (hk0 : kk ≠ 0) {n : Int32} (hn : ¬ n < 0) (hN : n.toNatClampNeg ≤ 60000000) (hc : cells + 1 ≤ mMc M) (hsl : slots + n.toNatClampNeg ≤ mMs M) (hT : mTb M (xN X) = none) (hd : decode cc pc = .ok (.newarray at_, 2))
    (k : ∀ H', Rp G (alloc X (kk, n.toNatClampNeg)) H' → W p l e R s m args below meth c H' locs (cells + 1) (slots + n.toNatClampNeg) Q (F0 m (pc + 2) ls (.ref (ad G (xN X)) :: rest))) : W p l e R s m args below meth c H locs cells slots Q (F0 m pc ls (.int n :: rest)) := by
  obtain ⟨⟨hx, hb, -, -⟩, hts, hG, -, -, ⟨hRc, hRs⟩, hTb, -, -⟩ := C
  have hty : newarray.typeOf at_ = aty kk ∧ 0 < kk ∧ kk < 6 ∧ (Cond.arrayClass (newarray.typeOf at_)).before args s = true ∧ n.toNatClampNeg * componentBytes (newarray.typeOf at_) ≤ 536870912 := by
    cases at_ <;> (try (simp [akind] at hk; exact absurd hk.symm hk0)) <;> subst hk
    · exact ⟨rfl, by decide, by decide, hts _ w_arrZ, by show _ * 1 ≤ _; omega⟩
    · exact ⟨rfl, by decide, by decide, hts _ w_arrS, by show _ * 2 ≤ _; omega⟩
    · exact ⟨rfl, by decide, by decide, hts _ w_arrI, by show _ * 4 ≤ _; omega⟩
    · exact ⟨rfl, by decide, by decide, hts _ w_arrL, by show _ * 8 ≤ _; omega⟩
  obtain ⟨t1, t2, t3, t4, t5⟩ := hty
  refine va_newaK hx hb t4 rfl hd rfl hn rfl t5 (by rw [hRc]; exact hc) (by rw [hRs]; exact hsl) rfl fun H' cA e1 e2 e3 _ e5 => ?_
  have hcA : cA = gA G kk := by
    have h9 := ra_find (hG.1.2 _ _ (aTys_get (G := G) t2 t3)).2
    rw [t1] at e5
    exact Option.some.inj (e5.symm.trans h9)
  subst hcA
  rw [t1] at e1
  have hR' := hR.made (sh := (kk, n.toNatClampNeg)) (fun ci h => by have := congrArg Prod.fst h; simp at this; omega) (by rw [← hTb]; exact hT) e2 e3 (newa_cel hR t2 t3 e1)
  rw [hR.adN] at k
  exact k H' hR'
theorem anew_ok (C : Cx G M own ini p l R s m args meth c cc nL) (hR : Rp G X H) {idx : Nat} (hw : gw (Cond.classLink own idx RX1) = true) {n : Int32} (hn : ¬ n < 0) (hN : n.toNatClampNeg ≤ 60000000) (hc : cells + 1 ≤ mMc M) (hsl : slots + n.toNatClampNeg ≤ mMs M) (hT : mTb M (xN X) = none) (hd : decode cc pc = .ok (.anewarray idx, 3))
    (k : ∀ H', Rp G (alloc X (5, n.toNatClampNeg)) H' → W p l e R s m args below meth c H' locs (cells + 1) (slots + n.toNatClampNeg) Q (F0 m (pc + 3) ls (.ref (ad G (xN X)) :: rest))) : W p l e R s m args below meth c H locs cells slots Q (F0 m pc ls (.int n :: rest)) := by
  obtain ⟨⟨hx, hb, -, hown⟩, hts, hG, -, -, ⟨hRc, hRs⟩, hTb, -, -⟩ := C
  refine W.anew hx hb hown (hts _ hw) (va_AO.use hG.2.2.2.2.2.2.2.1) rfl hd rfl hn (by omega) (by rw [hRc]; exact hc) (by rw [hRs]; exact hsl) fun cA kA comp f1 f2 f3 f4 => ?_
  have h9 := (hG.1.2 4 (gA G 5, .object "FareClock$Day") rfl).2
  obtain ⟨kA', comp', -, -, -, h8⟩ := h9
  have hcA : cA = gA G 5 := Option.some.inj (f1.symm.trans h8)
  subst hcA
  have hR' := hR.made (H' := H.push ({ cls := gA G 5, slots := Array.replicate n.toNatClampNeg .null, vm := .none } : Cell)) (sh := (5, n.toNatClampNeg)) (fun ci h => by have := congrArg Prod.fst h; simp at this) (by rw [← hTb]; exact hT) (by rw [Array.size_push]) (fun q hq => by rw [Array.getElem?_push, if_neg (Nat.ne_of_lt hq)])
    (newa_cel hR (by omega) (by omega) (by rw [Array.getElem?_push_size, arrV_new]; rfl))
  rw [hR.adN] at k
  exact k _ hR'
/-- an object is made; its fields are as new ones are -/
theorem new_ok (C : Cx G M own ini p l R s m args meth c cc nL) (hR : Rp G X H) {idx ci : Nat} (h13 : ci < 13) (hw1 : gw (Cond.classLink own idx (cNm ci)) = true) (hw2 : gw (Cond.instantiable (cNm ci) (fN ci)) = true) (hw3 : gw (Cond.initialized (cNm ci)) = true) (hc : cells + 1 ≤ mMc M) (hsl : slots + fN ci ≤ mMs M) (hT : mTb M (xN X) = none) (hd : decode cc pc = .ok (.new idx, 3))
    (k : ∀ H', Rp G (alloc X (ci + 10, 0)) H' → W p l e R s m args below meth c H' locs (cells + 1) (slots + fN ci) Q (F0 m (pc + 3) ls (.ref (ad G (xN X)) :: rest))) : W p l e R s m args below meth c H locs cells slots Q (F0 m pc ls rest) := by
  obtain ⟨⟨hx, hb, -, hown⟩, hts, hG, -, -, ⟨hRc, hRs⟩, hTb, -, -⟩ := C
  have hKn := hG.1.1 ci _ (cls_get h13)
  refine W.newcK hx hb hown (hts _ hw1) (hts _ hw2) (hts _ hw3) rfl hd (by rw [hRc]; exact hc) (by rw [hRs]; exact hsl) hKn.2.1 rfl fun H' kC hkC e1 e2 e3 => ?_
  have hob := u_born (fty ci) (ws := u_ws (cNm ci) (cTb ci) (fN ci)) (fun w h => hts w (cls_in h13 w h)) (fun _ h => h) hKn hkC e1 (cls_ty h13)
  have hR' := hR.made (sh := (ci + 10, 0)) (fun ci' h => by have := congrArg Prod.snd h; simp at this) (by rw [← hTb]; exact hT) e2 e3 (by
    unfold cel
    have e : xS (alloc X (ci + 10, 0)) (xN X) = (ci + 10, 0) := u1_at _ _ _
    rw [e]
    simp only [Nat.add_eq_zero_iff, if_neg (show ¬ (ci = 0 ∧ 10 = 0) by omega), if_neg (show ¬ (ci + 10 < 6) by omega), Nat.add_sub_cancel]
    refine ⟨by omega, h13, ?_⟩
    rw [hR.adN]
    refine hob.to fun j hj => ?_
    have e1 : xI (alloc X (ci + 10, 0)) (xN X) = fun _ => 0 := u1_at _ _ _
    have e2 : xJ (alloc X (ci + 10, 0)) (xN X) = fun _ => 0 := u1_at _ _ _
    have e3 : xR (alloc X (ci + 10, 0)) (xN X) = fun _ => none := u1_at _ _ _
    unfold fv
    rw [e1, e2, e3]
    have hF : fty ci j = .int ∨ fty ci j = .boolean ∨ fty ci j = .long ∨ (∃ a, fty ci j = .object a) ∨ ∃ a, fty ci j = .array a := fty_some h13 hj
    rcases hF with h | h | h | ⟨a, h⟩ | ⟨a, h⟩ <;> rw [h] <;> rfl)
  rw [hR.adN] at k
  exact k H' hR'
end Arr
