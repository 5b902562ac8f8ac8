/-! clone and arraycopy of int rows -/
def cloneX (X : AX) (i len : Nat) : AX := (u1 (xS X) (xN X) (1, len), u1 (xI X) (xN X) (xI X i), u1 (xJ X) (xN X) (fun _ => 0), u1 (xR X) (xN X) (fun _ => none), xN X + 1)
def ivK (tb : Nat → Option (Nat × Nat)) (Mc Ms : Nat) : IV := fun st X k z N _ => match st with
  | .inr (.inr (.inr r)) :: rest => onSome r fun i => gd (0 < i ∧ (shp tb X i).1 = 1) (gd (tb (xN X) = none) (gd ((rest.map avc).sum ≤ 8 ∧ k + 1 ≤ Mc ∧ z + (shp tb X i).2 ≤ Ms) (N (vR (some (xN X)) :: rest) (cloneX X i (shp tb X i).2) (k + 1) (z + (shp tb X i).2))))
  | _ => False
def ivA (tb : Nat → Option (Nat × Nat)) : IV := fun st X k z N _ => match st with
  | .inl n :: .inl dp :: .inr (.inr (.inr d)) :: .inl sp :: .inr (.inr (.inr s)) :: rest => onSome d fun di => onSome s fun si => gd (4 ≤ di ∧ 4 ≤ si ∧ (shp tb X di).1 = 1 ∧ (shp tb X si).1 = 1) (gd ((rest.map avc).sum ≤ 8)
      ((¬ sp < 0 ∧ ¬ dp < 0 ∧ ¬ n < 0 ∧ sp.toNatClampNeg + n.toNatClampNeg ≤ (shp tb X si).2 ∧ dp.toNatClampNeg + n.toNatClampNeg ≤ (shp tb X di).2) ∧
        N rest (xS X, u1 (xI X) di (va_cpy (xI X si) (xI X di) sp.toNatClampNeg dp.toNatClampNeg n.toNatClampNeg), xJ X, xR X, xN X) k z))
  | _ => False
theorem w_clone : gw (.sameMethod "[I" "java/lang/Object" "clone" "()Ljava/lang/Object;") = true ∧ gw (.native ⟨"java/lang/Object", "clone", "()Ljava/lang/Object;"⟩) = true ∧ gw (.instanceMethod ⟨"java/lang/Object", "clone", "()Ljava/lang/Object;"⟩) = true ∧ gw (.selects "[I" ⟨"[I", "clone", "()Ljava/lang/Object;"⟩ ⟨"java/lang/Object", "clone", "()Ljava/lang/Object;"⟩) = true := by decide +kernel
theorem w_acopy : gw (.native arraycopyName) = true ∧ gw (.static arraycopyName) = true ∧ gw (.initialized "java/lang/System") = true := by decide +kernel
section Iv3
variable {l : Launch} {R : Room} {G : GX} {M : MT} {own : String} {ini : Bool}
set_option maxHeartbeats 4000000 in
theorem ivK_ok {idx : Nat} (h3 : gw (.methodLink own idx ⟨"[I", "clone", "()Ljava/lang/Object;"⟩) = true) (h6 : roomO R 14 = true) : IvOK G l R M own ini (4 * idx) (ivK (mTb M) (mMc M) (mMs M)) := by
  intro p e s m args below meth c cc nL Q C pc hd L st X k z N HX h hN hX H locs ls hR hq hL hk hz
  unfold ivK at h
  split at h
  · rename_i r rest
    obtain ⟨i, rfl, h⟩ := onSome_use h
    obtain ⟨⟨g0, g1⟩, h⟩ := gd_use h
    obtain ⟨g2, h⟩ := gd_use h
    obtain ⟨⟨g3, g4, g5⟩, h⟩ := gd_use h
    obtain ⟨⟨hx, hb, hml, hown⟩, hts, hG, -, -, ⟨hRc, hRs⟩, hTb, -⟩ := id C
    rw [shp_eq hR hTb] at g1 g5 h
    rw [hTb] at g2
    rw [ivIns_v] at hd
    have hr := roomO_use h6
    have hc8 := cat8 (G := G) g3
    obtain ⟨n, hn⟩ : ∃ n, (xS X i).2 = n := ⟨_, rfl⟩
    rw [hn] at g5 h
    have hs : xS X i = (1, n) := by rw [← g1, ← hn]
    obtain ⟨cell, q1, q2, q3, q4, q5⟩ := arr_cell hG hR hs (by omega) (by omega)
    have hA1 := ra_find (hG.1.2 0 (gA G 1, .int) rfl).2
    have hcl : s.vm.findClass "[I" = some cell.cls := by
      rcases Nat.lt_or_ge i 4 with q | q
      · obtain ⟨cell', p1, -, -, p4, -⟩ := hG.2.1 i q
        have e1 : H[ad G i]? = some cell' := by
          unfold ad
          rw [if_pos q, hR.1.2.2.2 _ (hR.2.2.1 i q).2.1]; exact p1
        cases Option.some.inj (e1.symm.trans q1)
        exact p4 g0
      · have e1 := (hR.arr hs (by omega) (by omega) q).2
        cases Option.some.inj (e1.symm.trans q1)
        exact hA1
    have hcls : cell.cls = gA G 1 := Option.some.inj (hcl.symm.trans hA1)
    have hnew : ({ cls := cell.cls, slots := cell.slots } : Cell) = arrV (gA G 1) n (aval G X 1 i) := by
      have : cell.slots = (arrV (gA G 1) n (aval G X 1 i)).slots := by
        apply Array.ext_getElem?
        intro j
        by_cases hj : j < n
        · rw [q5 j hj, arrV_read _ _ hj]
        · rw [Array.getElem?_eq_none (by omega), Array.getElem?_eq_none (by rw [arrV_size]; omega)]
      rw [this, hcls]; rfl
    obtain ⟨c0, t0', f1, f2, f3⟩ := Cond.castable_spec (va_Nw.use (A := args) rfl (hG.2.2.2.2.1 ("[I", "java/lang/Cloneable") (by decide)))
    cases hcl.symm.trans f1
    intro T hT XX
    have hcellT : T.heap[ad G i]? = some cell := by rw [hT]; exact q1
    obtain ⟨-, kA, hkA, comp, hkind⟩ := State.isArrayOf_alike XX.warmed.alike q2
    obtain ⟨hst9, kS, hkS, compS, hkindS⟩ := q2
    obtain ⟨vm', X', st9⟩ := XX.cloneArray hx hown (hts _ h3) (hts _ w_clone.1) (hts _ w_clone.2.1) (hts _ w_clone.2.2.1) (hts _ w_clone.2.2.2) (a := ad G i) (cell := cell) hcellT (fun k h => hst9 k h) q3 hcl f2 f3
      (fun j v hv => by
        have hk' : T.vm.classes[cell.cls]? = some kA := hkA
        have hjn : j < n := by rw [← q4]; exact (Array.getElem?_eq_some_iff.mp hv).1
        rw [q5 j hjn] at hv
        cases hv
        simp [State.fitsSlot, State.slotType?, hk', hkind, aty, aval, fits])
      (g := F0 m pc ls (.ref (ad G i) :: rest.map (cv G))) rfl (by rw [hml]; exact hL.2.1) rfl (by rw [hb]; exact hd) hr.1 (by show 2 * 0 + _ + 14 ≤ _; omega) (by omega) (by rw [q4]; omega) (hloader := Vm.clonesLoader_of_array hkS hkindS)
    rw [q4] at X'
    rw [hnew] at X' st9
    have hR' : Rp G (cloneX X i n) (H.push (arrV (gA G 1) n (aval G X 1 i))) := by
      refine hR.push (X' := cloneX X i n) rfl (fun j hj => u1_ne _ _ hj) (fun ci => ?_) (fun j hj => ⟨u1_ne _ _ hj, u1_ne _ _ hj, u1_ne _ _ hj⟩) (by rw [Array.size_push]) (fun q hq => by rw [Array.getElem?_push, if_neg (Nat.ne_of_lt hq)]) ?_ (fun s h => by rw [g2] at h; cases h)
      · show u1 _ _ _ _ ≠ _
        rw [u1_at]; intro h9; have := congrArg Prod.fst h9; simp at this
      · unfold cel
        have e : xS (cloneX X i n) (xN X) = (1, n) := u1_at _ _ _
        rw [e]
        simp only [if_neg (show ¬ (1 : Nat) = 0 by omega), if_pos (show (1 : Nat) < 6 by omega)]
        rw [hR.adN, Array.getElem?_push_size]
        congr 2
        funext j
        show Value.int (xI X i j) = Value.int (u1 (xI X) (xN X) (xI X i) (xN X) j)
        rw [u1_at]
    obtain ⟨t, b1, b2⟩ := hN _ _ _ _ h (H.push (arrV (gA G 1) n (aval G X 1 i))) locs ls hR' hq hL (by omega) (by omega) ((T.setVm vm').pushCell (arrV (gA G 1) n (aval G X 1 i))) (by rw [← hT]; rfl) X'
    refine ⟨t, st9 t ?_, b2⟩
    have e10 : (vR (some (xN X)) :: rest).map (cv G) = .ref T.heap.size :: rest.map (cv G) := by rw [hT, ← hR.adN]; rfl
    rw [e10] at b1
    exact b1
  · exact h.elim
set_option maxHeartbeats 4000000 in
theorem ivA_ok {idx : Nat} (h3 : gw (.methodLink own idx arraycopyName) = true) (h6 : roomO R 40 = true) : IvOK G l R M own ini (4 * idx + 2) (ivA (mTb M)) := by
  intro p e s m args below meth c cc nL Q C pc hd L st X k z N HX h hN hX H locs ls hR hq hL hk hz
  unfold ivA at h
  split at h
  · rename_i n dp d sp sr rest
    obtain ⟨di, rfl, h'⟩ := onSome_use h
    obtain ⟨si, rfl, h⟩ := onSome_use h'
    obtain ⟨⟨d4, s4, g1, g2⟩, h⟩ := gd_use h
    obtain ⟨g3, ⟨c1, c2, c3, c4, c5⟩, h⟩ := gd_use h
    obtain ⟨⟨hx, hb, hml, hown⟩, hts, hG, -, -, ⟨hRc, hRs⟩, hTb, -⟩ := id C
    rw [shp_eq hR hTb] at g1 g2 c4 c5
    rw [ivIns_t] at hd
    have hr := roomO_use h6
    have hc8 := cat8 (G := G) g3
    have hsd : xS X di = (1, (xS X di).2) := by rw [← g1]
    have hss : xS X si = (1, (xS X si).2) := by rw [← g2]
    obtain ⟨nd, hnd⟩ : ∃ n, (xS X di).2 = n := ⟨_, rfl⟩
    obtain ⟨ns, hns⟩ : ∃ n, (xS X si).2 = n := ⟨_, rfl⟩
    rw [hnd] at hsd c5; rw [hns] at hss c4
    have hcd := (hR.arr hsd (by omega) (by omega) d4).2
    have hcs := (hR.arr hss (by omega) (by omega) s4).2
    have nn : ∀ z : Int32, ¬ z < 0 → z.toInt = (z.toNatClampNeg : Int) := by
      intro z hz
      have hz0 : (0 : Int) ≤ z.toInt := by
        have := Int32.not_lt.mp hz
        simpa using Int32.le_iff_toInt_le.mp this
      show z.toInt = ((z.toInt.toNat : Nat) : Int)
      omega
    obtain ⟨-, k0, hk0, cm0, hkk0⟩ := (hG.1.2 0 (gA G 1, .int) rfl).1 ns (aval G X 1 si)
    obtain ⟨-, k1, hk1, cm1, hkk1⟩ := (hG.1.2 0 (gA G 1, .int) rfl).1 nd (aval G X 1 di)
    intro T hT XX
    obtain ⟨vm', X', step⟩ := XX.arraycopy hx hown (hts _ h3) (hts _ w_acopy.1) (hts _ w_acopy.2.1) (hts _ w_acopy.2.2) (src := ad G si) (dst := ad G di) (cs := arrV (gA G 1) ns (aval G X 1 si)) (cd := arrV (gA G 1) nd (aval G X 1 di)) (srcPos := sp) (destPos := dp) (n := n) (by rw [hT]; exact hcs) (by rw [hT]; exact hcd)
      (fun _ h => by cases h) (fun _ h => by cases h) (fun h => by cases h) (fun h => by cases h) hk0 hk1 hkk0 hkk1 (by simp [refKind]) c1 c2 c3
      (by rw [nn sp c1, nn n c3, arrV_size]; omega) (by rw [nn dp c2, nn n c3, arrV_size]; omega)
      (fun vm₁ _ i hi => by
        have e : (arrV (gA G 1) ns (aval G X 1 si)).slots.getD (sp.toNatClampNeg + i) .null = .int (xI X si (sp.toNatClampNeg + i)) := by
          rw [Array.getD_eq_getD_getElem?, arrV_read _ _ (by omega)]
          rfl
        rw [e]
        exact ⟨rfl, trivial⟩)
      (g := F0 m pc ls (.int n :: .int dp :: .ref (ad G di) :: .int sp :: .ref (ad G si) :: rest.map (cv G))) rfl (by rw [hml]; exact hL.2.1) (rest := rest.map (cv G)) rfl (by rw [hb]; exact hd) hr.1 (by
        show 2 * 0 + _ + (nativeFrameWords "java/lang/System" "arraycopy" 5 + 11) ≤ _
        have : nativeFrameWords "java/lang/System" "arraycopy" 5 = 7 := by decide
        rw [this]; omega)
    have e1 : copied (arrV (gA G 1) ns (aval G X 1 si)) (arrV (gA G 1) nd (aval G X 1 di)) sp dp n = arrV (gA G 1) nd (fun j => .int (va_cpy (xI X si) (xI X di) sp.toNatClampNeg dp.toNatClampNeg n.toNatClampNeg j)) := va_copied (fun z => .int z) (gA G 1) (gA G 1) (xI X si) (xI X di) c4
    rw [e1] at X' step
    have hl : ad G di < H.size := (Array.getElem?_eq_some_iff.mp hcd).1
    have hR' : Rp G (xS X, u1 (xI X) di (va_cpy (xI X si) (xI X di) sp.toNatClampNeg dp.toNatClampNeg n.toNatClampNeg), xJ X, xR X, xN X) (H.setIfInBounds (ad G di) (arrV (gA G 1) nd (fun j => .int (va_cpy (xI X si) (xI X di) sp.toNatClampNeg dp.toNatClampNeg n.toNatClampNeg j)))) := by
      refine hR.set d4 rfl rfl (fun j hj => ⟨u1_ne _ _ hj, rfl, rfl⟩) (by simp) (fun q hq => by simp [Array.getElem?_setIfInBounds, Ne.symm hq]) ?_ (fun ci hci => ?_)
      · unfold cel
        have e : xS (xS X, u1 (xI X) di (va_cpy (xI X si) (xI X di) sp.toNatClampNeg dp.toNatClampNeg n.toNatClampNeg), xJ X, xR X, xN X) di = (1, nd) := hsd
        rw [e]
        simp only [if_neg (show ¬ (1 : Nat) = 0 by omega), if_pos (show (1 : Nat) < 6 by omega)]
        rw [Array.getElem?_setIfInBounds_self_of_lt hl]
        congr 2
        funext j
        show _ = Value.int (u1 (xI X) di _ di j)
        rw [u1_at]
      · rw [hsd] at hci; have := congrArg Prod.fst hci; simp at this
    obtain ⟨t, b1, b2⟩ := hN _ _ _ _ h _ _ ls hR' (fun q hq' => by
      rcases List.mem_append.mp hq' with h9 | h9
      · exact hq q h9
      · obtain ⟨z9, -, hz9⟩ := List.mem_map.mp h9
        rw [← hz9]
        exact ad_ge d4) hL hk hz _ (by rw [← hT]; rfl) X'
    exact ⟨t, step t b1, b2⟩
  · exact h.elim
end Iv3
